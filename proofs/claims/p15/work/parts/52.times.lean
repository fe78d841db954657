/-! worth, as it is laid by numbers and a mark -/
theorem or_0 {x : Int32} (h : x.toInt = 0) : (x ||| 0).toInt = 0 := by
  have e : x = 0 := Int32.toInt_inj.1 (by rw [h, ti_0])
  rw [e]
  decide
theorem red_by {a b g : Int64} (h : g = gI a b) : ((a / g, b / g) : Int64 × Int64) = redW a b := by rw [h]; rfl
theorem den_pos {b d z : Int64} (hb : 1 ≤ b.toInt) (hd : 1 ≤ d.toInt) (h : fitM b d) (e : z = b * d) : 1 ≤ z.toInt := by rw [e]; exact fitM_pos hb hd h
/-- what stands there, with its mark -/
def mpW (b : Int32) (v w : Int64) : Int64 × Int64 := if b.toInt = 0 then (v, w) else (0, 0)
theorem mp_y {b : Int32} {v w : Int64} (h : b.toInt = 0) : mpW b v w = (v, w) := if_pos h
theorem mp_n {b : Int32} {v w : Int64} (h : ¬ b.toInt = 0) : mpW b v w = (0, 0) := if_neg h
theorem mulW_0 {v w : Int64} : mulW (0, 0) v w = (0, 0) := mulW_no (Or.inl (by decide +kernel))
theorem ref_mul {b b' : Int32} {a e c d u v : Int64} {p : Int64 × Int64} (hp : mpW b c d = p) (hd : 1 ≤ d.toInt) (h1 : b'.toInt = 0 ↔ (b.toInt = 0 ∧ fitM a c ∧ fitM e d)) (h2 : b'.toInt = 0 → (u, v) = redW (a * c) (e * d)) : mpW b' u v = mulW p a e := by
  subst hp
  by_cases hb : b.toInt = 0
  · rw [mp_y hb]
    by_cases hf : fitM a c ∧ fitM e d
    · have h3 := h1.2 ⟨hb, hf⟩
      rw [mp_y h3, h2 h3, mulW_yes (p := (c, d)) (show ¬ d.toInt = 0 by omega) (fitM_c.1 hf.1) (fitM_c.1 hf.2), Int64.mul_comm a c, Int64.mul_comm e d]
    · rw [mp_n (fun q => hf (h1.1 q).2)]
      refine (mulW_no (p := (c, d)) (Or.inr ?_)).symm
      by_cases q : fitM c a
      · exact Or.inr (fun q2 => hf ⟨fitM_c.1 q, fitM_c.1 q2⟩)
      · exact Or.inl q
  · rw [mp_n hb, mp_n (fun q => hb (h1.1 q).1), mulW_0]
theorem ref_add {b b2 b' : Int32} {a e c d u v : Int64} {p q : Int64 × Int64} (hp : mpW b a e = p) (hq : b.toInt = 0 → mpW b2 c d = q) (hb : b2.toInt = 0 → b.toInt = 0) (he : 1 ≤ e.toInt) (hd : 1 ≤ d.toInt) (h1 : b'.toInt = 0 ↔ (b2.toInt = 0 ∧ fitM a d ∧ fitM c e ∧ fitM e d ∧ fitA (a * d) (c * e))) (h2 : b'.toInt = 0 → (u, v) = redW ((a * d) + (c * e)) (e * d)) : mpW b' u v = addW p q := by
  by_cases c1 : b.toInt = 0
  · have hq := hq c1
    subst hp
    subst hq
    rw [mp_y c1]
    by_cases c2 : b2.toInt = 0
    · rw [mp_y c2]
      by_cases hf : fitM a d ∧ fitM c e ∧ fitM e d ∧ fitA (a * d) (c * e)
      · have h3 := h1.2 ⟨c2, hf⟩
        rw [mp_y h3, h2 h3]
        exact (addW_yes (p := (a, e)) (q := (c, d)) (show ¬ e.toInt = 0 by omega) (show ¬ d.toInt = 0 by omega) hf.1 hf.2.1 hf.2.2.1 hf.2.2.2).symm
      · rw [mp_n (fun q => hf (h1.1 q).2)]
        refine (addW_no (p := (a, e)) (q := (c, d)) (Or.inr (Or.inr ?_))).symm
        show ¬ fitM a d ∨ ¬ fitM c e ∨ ¬ fitM e d ∨ ¬ fitA (a * d) (c * e)
        by_cases q1 : fitM a d
        · by_cases q2 : fitM c e
          · by_cases q3 : fitM e d
            · exact Or.inr (Or.inr (Or.inr (fun q4 => hf ⟨q1, q2, q3, q4⟩)))
            · exact Or.inr (Or.inr (Or.inl q3))
          · exact Or.inr (Or.inl q2)
        · exact Or.inl q1
    · rw [mp_n c2, mp_n (fun q => c2 (h1.1 q).1)]
      exact (addW_no (Or.inr (Or.inl (by decide +kernel)))).symm
  · rw [mp_n (fun q => c1 (hb (h1.1 q).1)), ← hp, mp_n c1]
    exact (addW_no (Or.inl (by decide +kernel))).symm
theorem ref_mul2 {b b' : Int32} {a e c d u v : Int64} {p : Int64 × Int64} (hp : mpW b a e = p) (he : 1 ≤ e.toInt) (h1 : b'.toInt = 0 ↔ (b.toInt = 0 ∧ fitM a c ∧ fitM e d)) (h2 : b'.toInt = 0 → (u, v) = redW (a * c) (e * d)) : mpW b' u v = mulW p c d := by
  subst hp
  by_cases hb : b.toInt = 0
  · rw [mp_y hb]
    by_cases hf : fitM a c ∧ fitM e d
    · have h3 := h1.2 ⟨hb, hf⟩
      rw [mp_y h3, h2 h3]
      exact (mulW_yes (p := (a, e)) (show ¬ e.toInt = 0 by omega) hf.1 hf.2).symm
    · rw [mp_n (fun q => hf (h1.1 q).2)]
      refine (mulW_no (p := (a, e)) (Or.inr ?_)).symm
      by_cases q : fitM a c
      · exact Or.inr (fun q2 => hf ⟨q, q2⟩)
      · exact Or.inl q
  · rw [mp_n hb, mp_n (fun q => hb (h1.1 q).1), mulW_0]
theorem or_00 {x y : Int32} (h : x.toInt = 0) (g : y.toInt = 0) : (x ||| y).toInt = 0 := by
  have e : x = 0 := Int32.toInt_inj.1 (by rw [h, ti_0])
  have e2 : y = 0 := Int32.toInt_inj.1 (by rw [g, ti_0])
  rw [e, e2]
  decide
theorem tri_trN {t : Int32} (h : 0 ≤ t.toInt ∧ t.toInt ≤ 6) : tri t.toInt = (trN t.toNatClampNeg : Int) := by
  obtain ⟨j, hj, e⟩ := nI_of (x := t) (by rw [fa_lt, ti_0]; omega)
  subst e
  rw [nI_toInt hj] at h
  rw [nI_toInt hj, nI_clamp hj]
  have key : ∀ a : Fin 7, tri (a.val : Int) = (trN a.val : Int) := by decide
  exact key ⟨j, by omega⟩
theorem at_sl {x t k r : Int32} (hx : 0 ≤ x.toInt) (ht : 0 ≤ t.toInt ∧ t.toInt ≤ 6) (hk : 0 ≤ k.toInt) (e : r.toInt = 28 * x.toInt + tri t.toInt + k.toInt) : r.toNatClampNeg = slN x t k := by
  have h1 := tn hx
  have h2 := tn hk
  have h3 := tri_trN ht
  have h4 := tn (x := r) (by omega)
  unfold slN
  omega
/-- the table, as pairs -/
def tabW (f20 f21 : Nat → Int64) (f22 : Nat → Int32) : vaF := fun x t k => mpW (f22 (slN x t k)) (f20 (slN x t k)) (f21 (slN x t k))
def lqW (a b c d e f g : Int32) : Nat → Int32
  | 0 => a
  | 1 => b
  | 2 => c
  | 3 => d
  | 4 => e
  | 5 => f
  | _ => g
theorem tk_mp {b b' : Int32} {u v : Int64} {f20 f21 : Nat → Int64} {f22 : Nat → Int32} {x t k : Int32} (h : b.toInt = 0) (i : b'.toInt = 0 ↔ (b.toInt = 0 ∧ (f22 (slN x t k)).toInt = 0)) (e1 : u = f20 (slN x t k)) (e2 : v = f21 (slN x t k)) : mpW b' u v = tabW f20 f21 f22 x t k := by
  show mpW b' u v = mpW (f22 (slN x t k)) (f20 (slN x t k)) (f21 (slN x t k))
  by_cases q : (f22 (slN x t k)).toInt = 0
  · rw [mp_y (i.2 ⟨h, q⟩), mp_y q, e1, e2]
  · rw [mp_n (fun q2 => q (i.1 q2).2), mp_n q]
theorem wt_ref {a b q : Int32} {g : Int64} (hb : 1 ≤ b.toInt ∧ b.toInt ≤ 9) (hq : 1 ≤ q.toInt ∧ q.toInt ≤ 9) (hg : g = gI a.toInt64 (b.toInt64 * q.toInt64)) : ((a.toInt64 / g, (b.toInt64 * q.toInt64) / g) : Int64 × Int64) = redW a.toInt64 ((b * q).toInt64) := by
  have h1 : b.toInt * q.toInt ≤ 9 * 9 := Int.mul_le_mul hb.2 hq.2 (by omega) (by omega)
  have h2 : 1 * 1 ≤ b.toInt * q.toInt := Int.mul_le_mul hb.1 hq.1 (by omega) (by omega)
  have e : b.toInt64 * q.toInt64 = (b * q).toInt64 := Int64.toInt_inj.1 (by
    rw [l_mul (by rw [Int32.toInt_toInt64, Int32.toInt_toInt64]; omega) (by rw [Int32.toInt_toInt64, Int32.toInt_toInt64]; omega), Int32.toInt_toInt64, Int32.toInt_toInt64, Int32.toInt_toInt64, fb_mulI (by omega) (by omega)])
  rw [hg, e]
  rfl
theorem avg_ref {l : Nat → Int32} {V : vaF} {x t k : Int32} {c d : Int64} (h : ((c, d) : Int64 × Int64) = wtW l) : mulW (addW (mulW (V x (t + 1) (k + 1)) (l 3).toInt64 1) (mulW (V x (t + 1) k) (l 4 - l 3).toInt64 1)) c d = avgW l V x t k := by
  unfold avgW
  rw [← h]
/-- the greater, the lesser one of two -/
theorem best_ref {b1 b2 b3 : Int32} {a e c d u v : Int64} {p q : Int64 × Int64} (hp : mpW b1 a e = p) (hq : b1.toInt = 0 → mpW b2 c d = q) (hb : b2.toInt = 0 → b1.toInt = 0) (h3 : b3 = b2) (hy : b2.toInt = 0 → (u, v) = (a, e) ∨ (u, v) = (c, d)) : b3.toInt = 0 → (mpW b3 u v = p ∨ mpW b3 u v = q) := by
  intro h
  rw [h3] at h
  have h1 := hb h
  rw [h3, mp_y h, ← hp, mp_y h1, ← hq h1, mp_y h]
  exact hy h
def bestW (p q : Int64 × Int64) (s : Int) : Int64 × Int64 := if p.2.toInt = 0 ∨ q.2.toInt = 0 then (0, 0) else if 0 < cmpP p q * s then p else q
theorem mul_s {r s : Int32} (hr : r.toInt = -1 ∨ r.toInt = 0 ∨ r.toInt = 1) (hs : s.toInt = 1 ∨ s.toInt = -1) : (r * s).toInt = r.toInt * s.toInt := by
  rcases hr with a | a | a <;> rcases hs with b | b <;> exact fb_mulI (by rw [a, b]; decide) (by rw [a, b]; decide)
theorem tb_ref {b1 b2 : Int32} {a e c d u v : Int64} {p q : Int64 × Int64} {s : Int} (hp : mpW b1 a e = p) (hq : b1.toInt = 0 → mpW b2 c d = q) (hb : b2.toInt = 0 → b1.toInt = 0) (he : 1 ≤ e.toInt) (hd : 1 ≤ d.toInt) (hy : b2.toInt = 0 → ((0 < cmpW a.toInt e.toInt c.toInt d.toInt * s) ∧ u = a ∧ v = e) ∨ (¬ (0 < cmpW a.toInt e.toInt c.toInt d.toInt * s) ∧ u = c ∧ v = d)) : mpW b2 u v = bestW p q s := by
  by_cases c1 : b1.toInt = 0
  · have hq := hq c1
    subst hp
    subst hq
    rw [mp_y c1]
    by_cases c2 : b2.toInt = 0
    · rw [mp_y c2, mp_y c2]
      unfold bestW
      rw [if_neg (show ¬ (e.toInt = 0 ∨ d.toInt = 0) by omega)]
      show (u, v) = if 0 < cmpW a.toInt e.toInt c.toInt d.toInt * s then (a, e) else (c, d)
      rcases hy c2 with ⟨y1, y2, y3⟩ | ⟨y1, y2, y3⟩
      · rw [if_pos y1, y2, y3]
      · rw [if_neg y1, y2, y3]
    · rw [mp_n c2, mp_n c2]
      unfold bestW
      rw [if_pos (Or.inr (by decide +kernel))]
  · rw [mp_n (fun h => c1 (hb h)), ← hp, mp_n c1]
    unfold bestW
    rw [if_pos (Or.inl (by decide +kernel))]
theorem dX13_times_0 : decode cX13_times 0 = .ok (.lload_n 1, 1) := by decide +kernel
theorem dX13_times_1 : decode cX13_times 1 = .ok (.lload_n 3, 1) := by decide +kernel
theorem dX13_times_10 : decode cX13_times 10 = .ok (.lload_n 1, 1) := by decide +kernel
theorem dX13_times_11 : decode cX13_times 11 = .ok (.lconst 0, 1) := by decide +kernel
theorem dX13_times_12 : decode cX13_times 12 = .ok (.lcmp, 1) := by decide +kernel
theorem dX13_times_13 : decode cX13_times 13 = .ok (.ifCond .eq 54, 3) := by decide +kernel
theorem dX13_times_16 : decode cX13_times 16 = .ok (.lload_n 3, 1) := by decide +kernel
theorem dX13_times_17 : decode cX13_times 17 = .ok (.lconst 0, 1) := by decide +kernel
theorem dX13_times_18 : decode cX13_times 18 = .ok (.lcmp, 1) := by decide +kernel
theorem dX13_times_19 : decode cX13_times 19 = .ok (.ifCond .eq 48, 3) := by decide +kernel
theorem dX13_times_2 : decode cX13_times 2 = .ok (.lmul, 1) := by decide +kernel
theorem dX13_times_22 : decode cX13_times 22 = .ok (.lload 5, 2) := by decide +kernel
theorem dX13_times_24 : decode cX13_times 24 = .ok (.lload_n 3, 1) := by decide +kernel
theorem dX13_times_25 : decode cX13_times 25 = .ok (.ldiv, 1) := by decide +kernel
theorem dX13_times_26 : decode cX13_times 26 = .ok (.lload_n 1, 1) := by decide +kernel
theorem dX13_times_27 : decode cX13_times 27 = .ok (.lcmp, 1) := by decide +kernel
theorem dX13_times_28 : decode cX13_times 28 = .ok (.ifCond .ne 35, 3) := by decide +kernel
theorem dX13_times_3 : decode cX13_times 3 = .ok (.lstore 5, 2) := by decide +kernel
theorem dX13_times_31 : decode cX13_times 31 = .ok (.lload_n 1, 1) := by decide +kernel
theorem dX13_times_32 : decode cX13_times 32 = .ok (.ldc2_w 135, 3) := by decide +kernel
theorem dX13_times_35 : decode cX13_times 35 = .ok (.lcmp, 1) := by decide +kernel
theorem dX13_times_36 : decode cX13_times 36 = .ok (.ifCond .ne 11, 3) := by decide +kernel
theorem dX13_times_39 : decode cX13_times 39 = .ok (.lload_n 3, 1) := by decide +kernel
theorem dX13_times_40 : decode cX13_times 40 = .ok (.ldc2_w 139, 3) := by decide +kernel
theorem dX13_times_43 : decode cX13_times 43 = .ok (.lcmp, 1) := by decide +kernel
theorem dX13_times_44 : decode cX13_times 44 = .ok (.ifCond .eq 19, 3) := by decide +kernel
theorem dX13_times_47 : decode cX13_times 47 = .ok (.lload_n 3, 1) := by decide +kernel
theorem dX13_times_48 : decode cX13_times 48 = .ok (.ldc2_w 135, 3) := by decide +kernel
theorem dX13_times_5 : decode cX13_times 5 = .ok (.aload_n 0, 1) := by decide +kernel
theorem dX13_times_51 : decode cX13_times 51 = .ok (.lcmp, 1) := by decide +kernel
theorem dX13_times_52 : decode cX13_times 52 = .ok (.ifCond .ne 15, 3) := by decide +kernel
theorem dX13_times_55 : decode cX13_times 55 = .ok (.lload_n 1, 1) := by decide +kernel
theorem dX13_times_56 : decode cX13_times 56 = .ok (.ldc2_w 139, 3) := by decide +kernel
theorem dX13_times_59 : decode cX13_times 59 = .ok (.lcmp, 1) := by decide +kernel
theorem dX13_times_6 : decode cX13_times 6 = .ok (.dup, 1) := by decide +kernel
theorem dX13_times_60 : decode cX13_times 60 = .ok (.ifCond .ne 7, 3) := by decide +kernel
theorem dX13_times_63 : decode cX13_times 63 = .ok (.iconst 1, 1) := by decide +kernel
theorem dX13_times_64 : decode cX13_times 64 = .ok (.goto 4, 3) := by decide +kernel
theorem dX13_times_67 : decode cX13_times 67 = .ok (.iconst 0, 1) := by decide +kernel
theorem dX13_times_68 : decode cX13_times 68 = .ok (.ior, 1) := by decide +kernel
theorem dX13_times_69 : decode cX13_times 69 = .ok (.putfield 131, 3) := by decide +kernel
theorem dX13_times_7 : decode cX13_times 7 = .ok (.getfield 131, 3) := by decide +kernel
theorem dX13_times_72 : decode cX13_times 72 = .ok (.lload 5, 2) := by decide +kernel
theorem dX13_times_74 : decode cX13_times 74 = .ok (.lreturn, 1) := by decide +kernel
set_option maxRecDepth 20000 in
theorem in_X13_times_X13 : ∀ w ∈ wsX130, w ∈ wsX13_times := sub_r [4, 5, 6, 7, 8, 9, 10, 11, 12, 13, 14, 15, 16, 17, 18, 19, 20, 21, 22, 23, 24, 25, 26, 27, 28, 29, 30, 31, 32, 33, 34, 35, 36, 37, 38, 39, 40, 41, 42, 43, 44, 45, 46, 47, 48] rfl
set_option maxHeartbeats 4000000 in
set_option maxRecDepth 100000 in
theorem c_X13_times (l : Launch) (D : va_G) (T : Nat → ClassId) (sz : Nat) (h0 : Nat) (q : Nat → Int32) (v : Int64) (w : Int64) (a : Nat → Nat) (x1 : Int64) (x2 : Int64) (hB : isB (q 14)) : Met l yX13_times wsX13_times ({ frames := 0, cells := 0, slots := 0, locals := 0 }) (pW [.ref h0, .long x1, .long x2] D T [(h0, .inr (10, (Value.int (q 0) :: Value.int (q 1) :: Value.int (q 2) :: Value.int (q 3) :: Value.int (q 4) :: Value.int (q 5) :: Value.int (q 6) :: Value.int (q 7) :: Value.ref (a 8) :: Value.ref (a 9) :: Value.ref (a 10) :: Value.ref (a 11) :: Value.ref (a 12) :: Value.ref (a 13) :: Value.int (q 14) :: Value.long v :: Value.long w :: Value.ref (a 17) :: Value.ref (a 18) :: Value.ref (a 19) :: Value.ref (a 20) :: Value.ref (a 21) :: Value.ref (a 22) :: Value.ref (a 23) :: Value.int (q 24) :: Value.ref (a 25) :: Value.int (q 26) :: Value.ref (a 27) :: Value.int (q 28) :: Value.int (q 29) :: Value.int (q 30) :: Value.int (q 31) :: Value.int (q 32) :: Value.int (q 33) :: Value.ref (a 34) :: Value.ref (a 35) :: Value.ref (a 36) :: Value.ref (a 37) :: Value.ref (a 38) :: Value.ref (a 39) :: Value.ref (a 40) :: Value.int (q 41) :: Value.ref (a 42) :: Value.int (q 43) :: Value.int (q 44) :: [])))] sz) (va_Ql (fun (r : Int64) (u : (Int32)) => (isB u) ∧ ((u : Int32).toInt = 0 ↔ (((q 14) : Int32).toInt = 0 ∧ fitM x1 x2)) ∧ (r = x1 * x2)) (bW D (va_A [(h0, .inr (10, (Value.int (q 0) :: Value.int (q 1) :: Value.int (q 2) :: Value.int (q 3) :: Value.int (q 4) :: Value.int (q 5) :: Value.int (q 6) :: Value.int (q 7) :: Value.ref (a 8) :: Value.ref (a 9) :: Value.ref (a 10) :: Value.ref (a 11) :: Value.ref (a 12) :: Value.ref (a 13) :: Value.int (q 14) :: Value.long v :: Value.long w :: Value.ref (a 17) :: Value.ref (a 18) :: Value.ref (a 19) :: Value.ref (a 20) :: Value.ref (a 21) :: Value.ref (a 22) :: Value.ref (a 23) :: Value.int (q 24) :: Value.ref (a 25) :: Value.int (q 26) :: Value.ref (a 27) :: Value.int (q 28) :: Value.int (q 29) :: Value.int (q 30) :: Value.int (q 31) :: Value.int (q 32) :: Value.int (q 33) :: Value.ref (a 34) :: Value.ref (a 35) :: Value.ref (a 36) :: Value.ref (a 37) :: Value.ref (a 38) :: Value.ref (a 39) :: Value.ref (a 40) :: Value.int (q 41) :: Value.ref (a 42) :: Value.int (q 43) :: Value.int (q 44) :: [])))] sz) (fun (u : (Int32)) => [(h0, .inr (10, (Value.int (q 0) :: Value.int (q 1) :: Value.int (q 2) :: Value.int (q 3) :: Value.int (q 4) :: Value.int (q 5) :: Value.int (q 6) :: Value.int (q 7) :: Value.ref (a 8) :: Value.ref (a 9) :: Value.ref (a 10) :: Value.ref (a 11) :: Value.ref (a 12) :: Value.ref (a 13) :: Value.int u :: Value.long v :: Value.long w :: Value.ref (a 17) :: Value.ref (a 18) :: Value.ref (a 19) :: Value.ref (a 20) :: Value.ref (a 21) :: Value.ref (a 22) :: Value.ref (a 23) :: Value.int (q 24) :: Value.ref (a 25) :: Value.int (q 26) :: Value.ref (a 27) :: Value.int (q 28) :: Value.int (q 29) :: Value.int (q 30) :: Value.int (q 31) :: Value.int (q 32) :: Value.int (q 33) :: Value.ref (a 34) :: Value.ref (a 35) :: Value.ref (a 36) :: Value.ref (a 37) :: Value.ref (a 38) :: Value.ref (a 39) :: Value.ref (a 40) :: Value.int (q 41) :: Value.ref (a 42) :: Value.int (q 43) :: Value.int (q 44) :: [])))])) (va_A [(h0, .inr (10, (Value.int (q 0) :: Value.int (q 1) :: Value.int (q 2) :: Value.int (q 3) :: Value.int (q 4) :: Value.int (q 5) :: Value.int (q 6) :: Value.int (q 7) :: Value.ref (a 8) :: Value.ref (a 9) :: Value.ref (a 10) :: Value.ref (a 11) :: Value.ref (a 12) :: Value.ref (a 13) :: Value.int (q 14) :: Value.long v :: Value.long w :: Value.ref (a 17) :: Value.ref (a 18) :: Value.ref (a 19) :: Value.ref (a 20) :: Value.ref (a 21) :: Value.ref (a 22) :: Value.ref (a 23) :: Value.int (q 24) :: Value.ref (a 25) :: Value.int (q 26) :: Value.ref (a 27) :: Value.int (q 28) :: Value.int (q 29) :: Value.int (q 30) :: Value.int (q 31) :: Value.int (q 32) :: Value.int (q 33) :: Value.ref (a 34) :: Value.ref (a 35) :: Value.ref (a 36) :: Value.ref (a 37) :: Value.ref (a 38) :: Value.ref (a 39) :: Value.ref (a 40) :: Value.int (q 41) :: Value.ref (a 42) :: Value.int (q 43) :: Value.int (q 44) :: [])))] sz)) 0 0 (va_A [(h0, .inr (10, (Value.int (q 0) :: Value.int (q 1) :: Value.int (q 2) :: Value.int (q 3) :: Value.int (q 4) :: Value.int (q 5) :: Value.int (q 6) :: Value.int (q 7) :: Value.ref (a 8) :: Value.ref (a 9) :: Value.ref (a 10) :: Value.ref (a 11) :: Value.ref (a 12) :: Value.ref (a 13) :: Value.int (q 14) :: Value.long v :: Value.long w :: Value.ref (a 17) :: Value.ref (a 18) :: Value.ref (a 19) :: Value.ref (a 20) :: Value.ref (a 21) :: Value.ref (a 22) :: Value.ref (a 23) :: Value.int (q 24) :: Value.ref (a 25) :: Value.int (q 26) :: Value.ref (a 27) :: Value.int (q 28) :: Value.int (q 29) :: Value.int (q 30) :: Value.int (q 31) :: Value.int (q 32) :: Value.int (q 33) :: Value.ref (a 34) :: Value.ref (a 35) :: Value.ref (a 36) :: Value.ref (a 37) :: Value.ref (a 38) :: Value.ref (a 39) :: Value.ref (a 40) :: Value.int (q 41) :: Value.ref (a 42) :: Value.int (q 43) :: Value.int (q 44) :: [])))] sz) := by
  refine Met.ofW (cc := cX13_times) (maxL := 7) (ret := (some .long)) (by decide +kernel) rfl ?_
  intro p e s m args below meth c s₁ B hml hv
  obtain ⟨rfl, hsz, hP, hE, hD0⟩ := hv
  have hx := B.exec
  have hb := B.bytes
  have hr := B.returns
  have hts := atoms_spec (ws := wsX13_times) B.pre
  have hown : s.vm.findClass RX13 = some m.cls := findClass_of_methodNamed B.named
  have hlocks := B.notSynchronized
  subst hsz
  have hD := hD0.self (sz := s.heap.size)
  generalize hAe : va_A [(h0, .inr (10, (Value.int (q 0) :: Value.int (q 1) :: Value.int (q 2) :: Value.int (q 3) :: Value.int (q 4) :: Value.int (q 5) :: Value.int (q 6) :: Value.int (q 7) :: Value.ref (a 8) :: Value.ref (a 9) :: Value.ref (a 10) :: Value.ref (a 11) :: Value.ref (a 12) :: Value.ref (a 13) :: Value.int (q 14) :: Value.long v :: Value.long w :: Value.ref (a 17) :: Value.ref (a 18) :: Value.ref (a 19) :: Value.ref (a 20) :: Value.ref (a 21) :: Value.ref (a 22) :: Value.ref (a 23) :: Value.int (q 24) :: Value.ref (a 25) :: Value.int (q 26) :: Value.ref (a 27) :: Value.int (q 28) :: Value.int (q 29) :: Value.int (q 30) :: Value.int (q 31) :: Value.int (q 32) :: Value.int (q 33) :: Value.ref (a 34) :: Value.ref (a 35) :: Value.ref (a 36) :: Value.ref (a 37) :: Value.ref (a 38) :: Value.ref (a 39) :: Value.ref (a 40) :: Value.int (q 41) :: Value.ref (a 42) :: Value.int (q 43) :: Value.int (q 44) :: [])))] s.heap.size = A at hD ⊢
  have hA : ∀ q : Nat, s.heap.size ≤ q → A q := fun q h => by rw [← hAe]; exact Or.inr h
  have hS : va_S A s.heap s.heap [] := va_S.rf
  have hP : va_P D vwCl [(h0, .inr (10, (Value.int (q 0) :: Value.int (q 1) :: Value.int (q 2) :: Value.int (q 3) :: Value.int (q 4) :: Value.int (q 5) :: Value.int (q 6) :: Value.int (q 7) :: Value.ref (a 8) :: Value.ref (a 9) :: Value.ref (a 10) :: Value.ref (a 11) :: Value.ref (a 12) :: Value.ref (a 13) :: Value.int (q 14) :: Value.long v :: Value.long w :: Value.ref (a 17) :: Value.ref (a 18) :: Value.ref (a 19) :: Value.ref (a 20) :: Value.ref (a 21) :: Value.ref (a 22) :: Value.ref (a 23) :: Value.int (q 24) :: Value.ref (a 25) :: Value.int (q 26) :: Value.ref (a 27) :: Value.int (q 28) :: Value.int (q 29) :: Value.int (q 30) :: Value.int (q 31) :: Value.int (q 32) :: Value.int (q 33) :: Value.ref (a 34) :: Value.ref (a 35) :: Value.ref (a 36) :: Value.ref (a 37) :: Value.ref (a 38) :: Value.ref (a 39) :: Value.ref (a 40) :: Value.int (q 41) :: Value.ref (a 42) :: Value.int (q 43) :: Value.int (q 44) :: [])))] s.heap := hP
  have hl := lv_entry ([.ref h0, .long x1, .long x2]) (n := 7) (Nat.le_of_ble_eq_true rfl)
  rw [lg_entry_eq]
  generalize (lg_sl ([.ref h0, .long x1, .long x2]) ++ List.replicate (7 - (lg_sl ([.ref h0, .long x1, .long x2])).length) Slot.unset).toArray = ls at hl ⊢
  have hl : lv_has ls 7 [(0, .ref h0), (1, .long x1), (3, .long x2)] := hl
  clear hD0
  refine lv_lload_n hx hb dX13_times_0 rfl (lv_at hl 1 rfl) ?_
  refine lv_lload_n hx hb dX13_times_1 rfl (lv_at hl 2 rfl) ?_
  refine lv_lmul hx hb dX13_times_2 ?_
  refine lv_topl (fun z_1 ez_1 => ?_)
  refine lv_lstore (lv' := [(5, .long z_1), (0, .ref h0), (1, .long x1), (3, .long x2)]) hx hb dX13_times_3 hl (by decide +kernel) rfl (fun ls hl => ?_)
  refine lv_aload_n hx hb dX13_times_5 rfl (lv_at hl 1 rfl) ?_
  refine lv_dup hx hb dX13_times_6 rfl ?_
  refine va_get (D := D) (ci := 10) (v := .int (q 14)) (C := RX13) (T := TX13) (N := 45) hx hb hts in_X13_times_X13 hown hE.1 hP 0 rfl rfl 14 (by decide +kernel) (hts (.fieldLink RX13 131 "ClauseBookModel" "isMuch" "Z") (List.mem_of_getElem? (i := 1) rfl)) (fun _ h9 => h9) rfl dX13_times_7 ?_
  refine lv_lload_n hx hb dX13_times_10 rfl (lv_at hl 2 rfl) ?_
  refine lv_lconst (v := 0) hx hb dX13_times_11 (by decide +kernel) ?_
  refine W.lcmp hx hb dX13_times_12 ?_
  refine lv_if_eq (tgt := 67) hx hb dX13_times_13 (by decide +kernel) (fun c_2 => ?_) (fun c_2 => ?_)
  · rw [lcmp_eq] at c_2
    try rw [tl_0] at c_2
    refine lv_iconst (v := 0) hx hb dX13_times_67 (by decide +kernel) ?_
    refine lv_ior hx hb dX13_times_68 ?_
    refine lv_topi (fun z_3 ez_3 => ?_)
    have hBz_3 : isB z_3 := by rw [ez_3]; exact isB.or hB isB0
    have hOz_3 : z_3.toInt = 0 → ((q 14) : Int32).toInt = 0 ∧ (0 : Int32).toInt = 0 := by rw [ez_3]; exact isB.or0 hB isB0
    refine va_put (D := D) (ci := 10) (v := .int z_3) (ty := .boolean) (C := RX13) (T := TX13) (N := 45) hx hb hts in_X13_times_X13 tyX13 tyX13_ok nmX13 hown hE.1 hP hD hS 0 rfl rfl 14 (by decide +kernel) (hts (.fieldLink RX13 131 "ClauseBookModel" "isMuch" "Z") (List.mem_of_getElem? (i := 1) rfl)) (fun _ h9 => h9) rfl (by decide +kernel) (isB.nar hBz_3) (isB.fits hBz_3) (Nat.le_of_ble_eq_true rfl) dX13_times_69 (fun H locs hP hD hS => ?_)
    obtain ⟨hP, hD⟩ := wPD [(h0, .inr (10, (Value.int (q 0) :: Value.int (q 1) :: Value.int (q 2) :: Value.int (q 3) :: Value.int (q 4) :: Value.int (q 5) :: Value.int (q 6) :: Value.int (q 7) :: Value.ref (a 8) :: Value.ref (a 9) :: Value.ref (a 10) :: Value.ref (a 11) :: Value.ref (a 12) :: Value.ref (a 13) :: Value.int z_3 :: Value.long v :: Value.long w :: Value.ref (a 17) :: Value.ref (a 18) :: Value.ref (a 19) :: Value.ref (a 20) :: Value.ref (a 21) :: Value.ref (a 22) :: Value.ref (a 23) :: Value.int (q 24) :: Value.ref (a 25) :: Value.int (q 26) :: Value.ref (a 27) :: Value.int (q 28) :: Value.int (q 29) :: Value.int (q 30) :: Value.int (q 31) :: Value.int (q 32) :: Value.int (q 33) :: Value.ref (a 34) :: Value.ref (a 35) :: Value.ref (a 36) :: Value.ref (a 37) :: Value.ref (a 38) :: Value.ref (a 39) :: Value.ref (a 40) :: Value.int (q 41) :: Value.ref (a 42) :: Value.int (q 43) :: Value.int (q 44) :: [])))] hP hD rfl
    refine lv_lload hx hb dX13_times_72 (lv_at hl 0 rfl) ?_
    exact W.lret hx hb hr (fun t ht hW => ⟨⟨_, z_3, rfl, ⟨(show isB z_3 from hBz_3), (show (z_3 : Int32).toInt = 0 ↔ (((q 14) : Int32).toInt = 0 ∧ fitM x1 x2) from ⟨(fun h9 => ⟨(hOz_3 h9).1, (by first | exact fitM_0 (by omega) | exact fitM_no (by omega) (by omega) (by first | assumption | rfl) (by assumption))⟩), (fun h9 => by rw [ez_3]; exact or_0 h9.1)⟩), (show z_1 = x1 * x2 from ez_1)⟩, by rw [ht]; exact hP.sub [0] rfl, hD.sub [0] (by decide +kernel) rfl⟩, hS.F ht⟩) hS.2.2 dX13_times_74
  · rw [lcmp_eq] at c_2
    try rw [tl_0] at c_2
    refine lv_lload_n hx hb dX13_times_16 rfl (lv_at hl 3 rfl) ?_
    refine lv_lconst (v := 0) hx hb dX13_times_17 (by decide +kernel) ?_
    refine W.lcmp hx hb dX13_times_18 ?_
    refine lv_if_eq (tgt := 67) hx hb dX13_times_19 (by decide +kernel) (fun c_4 => ?_) (fun c_4 => ?_)
    · rw [lcmp_eq] at c_4
      try rw [tl_0] at c_4
      refine lv_iconst (v := 0) hx hb dX13_times_67 (by decide +kernel) ?_
      refine lv_ior hx hb dX13_times_68 ?_
      refine lv_topi (fun z_5 ez_5 => ?_)
      have hBz_5 : isB z_5 := by rw [ez_5]; exact isB.or hB isB0
      have hOz_5 : z_5.toInt = 0 → ((q 14) : Int32).toInt = 0 ∧ (0 : Int32).toInt = 0 := by rw [ez_5]; exact isB.or0 hB isB0
      refine va_put (D := D) (ci := 10) (v := .int z_5) (ty := .boolean) (C := RX13) (T := TX13) (N := 45) hx hb hts in_X13_times_X13 tyX13 tyX13_ok nmX13 hown hE.1 hP hD hS 0 rfl rfl 14 (by decide +kernel) (hts (.fieldLink RX13 131 "ClauseBookModel" "isMuch" "Z") (List.mem_of_getElem? (i := 1) rfl)) (fun _ h9 => h9) rfl (by decide +kernel) (isB.nar hBz_5) (isB.fits hBz_5) (Nat.le_of_ble_eq_true rfl) dX13_times_69 (fun H locs hP hD hS => ?_)
      obtain ⟨hP, hD⟩ := wPD [(h0, .inr (10, (Value.int (q 0) :: Value.int (q 1) :: Value.int (q 2) :: Value.int (q 3) :: Value.int (q 4) :: Value.int (q 5) :: Value.int (q 6) :: Value.int (q 7) :: Value.ref (a 8) :: Value.ref (a 9) :: Value.ref (a 10) :: Value.ref (a 11) :: Value.ref (a 12) :: Value.ref (a 13) :: Value.int z_5 :: Value.long v :: Value.long w :: Value.ref (a 17) :: Value.ref (a 18) :: Value.ref (a 19) :: Value.ref (a 20) :: Value.ref (a 21) :: Value.ref (a 22) :: Value.ref (a 23) :: Value.int (q 24) :: Value.ref (a 25) :: Value.int (q 26) :: Value.ref (a 27) :: Value.int (q 28) :: Value.int (q 29) :: Value.int (q 30) :: Value.int (q 31) :: Value.int (q 32) :: Value.int (q 33) :: Value.ref (a 34) :: Value.ref (a 35) :: Value.ref (a 36) :: Value.ref (a 37) :: Value.ref (a 38) :: Value.ref (a 39) :: Value.ref (a 40) :: Value.int (q 41) :: Value.ref (a 42) :: Value.int (q 43) :: Value.int (q 44) :: [])))] hP hD rfl
      refine lv_lload hx hb dX13_times_72 (lv_at hl 0 rfl) ?_
      exact W.lret hx hb hr (fun t ht hW => ⟨⟨_, z_5, rfl, ⟨(show isB z_5 from hBz_5), (show (z_5 : Int32).toInt = 0 ↔ (((q 14) : Int32).toInt = 0 ∧ fitM x1 x2) from ⟨(fun h9 => ⟨(hOz_5 h9).1, (by first | exact fitM_0 (by omega) | exact fitM_no (by omega) (by omega) (by first | assumption | rfl) (by assumption))⟩), (fun h9 => by rw [ez_5]; exact or_0 h9.1)⟩), (show z_1 = x1 * x2 from ez_1)⟩, by rw [ht]; exact hP.sub [0] rfl, hD.sub [0] (by decide +kernel) rfl⟩, hS.F ht⟩) hS.2.2 dX13_times_74
    · rw [lcmp_eq] at c_4
      try rw [tl_0] at c_4
      refine lv_lload hx hb dX13_times_22 (lv_at hl 0 rfl) ?_
      refine lv_lload_n hx hb dX13_times_24 rfl (lv_at hl 3 rfl) ?_
      refine lv_ldiv hx hb dX13_times_25 (nz64 (by omega)) ?_
      refine lv_lload_n hx hb dX13_times_26 rfl (lv_at hl 2 rfl) ?_
      refine W.lcmp hx hb dX13_times_27 ?_
      refine lv_if_ne (tgt := 63) hx hb dX13_times_28 (by decide +kernel) (fun c_6 => ?_) (fun c_6 => ?_)
      · rw [lcmp_eq] at c_6
        refine lv_iconst (v := 1) hx hb dX13_times_63 (by decide +kernel) ?_
        refine lv_goto (tgt := 68) hx hb dX13_times_64 (by decide +kernel) ?_
        refine lv_ior hx hb dX13_times_68 ?_
        refine lv_topi (fun z_7 ez_7 => ?_)
        have hBz_7 : isB z_7 := by rw [ez_7]; exact isB.or hB isB1
        have hOz_7 : z_7.toInt = 0 → ((q 14) : Int32).toInt = 0 ∧ (1 : Int32).toInt = 0 := by rw [ez_7]; exact isB.or0 hB isB1
        refine va_put (D := D) (ci := 10) (v := .int z_7) (ty := .boolean) (C := RX13) (T := TX13) (N := 45) hx hb hts in_X13_times_X13 tyX13 tyX13_ok nmX13 hown hE.1 hP hD hS 0 rfl rfl 14 (by decide +kernel) (hts (.fieldLink RX13 131 "ClauseBookModel" "isMuch" "Z") (List.mem_of_getElem? (i := 1) rfl)) (fun _ h9 => h9) rfl (by decide +kernel) (isB.nar hBz_7) (isB.fits hBz_7) (Nat.le_of_ble_eq_true rfl) dX13_times_69 (fun H locs hP hD hS => ?_)
        obtain ⟨hP, hD⟩ := wPD [(h0, .inr (10, (Value.int (q 0) :: Value.int (q 1) :: Value.int (q 2) :: Value.int (q 3) :: Value.int (q 4) :: Value.int (q 5) :: Value.int (q 6) :: Value.int (q 7) :: Value.ref (a 8) :: Value.ref (a 9) :: Value.ref (a 10) :: Value.ref (a 11) :: Value.ref (a 12) :: Value.ref (a 13) :: Value.int z_7 :: Value.long v :: Value.long w :: Value.ref (a 17) :: Value.ref (a 18) :: Value.ref (a 19) :: Value.ref (a 20) :: Value.ref (a 21) :: Value.ref (a 22) :: Value.ref (a 23) :: Value.int (q 24) :: Value.ref (a 25) :: Value.int (q 26) :: Value.ref (a 27) :: Value.int (q 28) :: Value.int (q 29) :: Value.int (q 30) :: Value.int (q 31) :: Value.int (q 32) :: Value.int (q 33) :: Value.ref (a 34) :: Value.ref (a 35) :: Value.ref (a 36) :: Value.ref (a 37) :: Value.ref (a 38) :: Value.ref (a 39) :: Value.ref (a 40) :: Value.int (q 41) :: Value.ref (a 42) :: Value.int (q 43) :: Value.int (q 44) :: [])))] hP hD rfl
        refine lv_lload hx hb dX13_times_72 (lv_at hl 0 rfl) ?_
        exact W.lret hx hb hr (fun t ht hW => ⟨⟨_, z_7, rfl, ⟨(show isB z_7 from hBz_7), (show (z_7 : Int32).toInt = 0 ↔ (((q 14) : Int32).toInt = 0 ∧ fitM x1 x2) from ⟨(fun h9 => by have h8 := (hOz_7 h9).2; rw [ti_1] at h8; omega), (fun h9 => absurd h9.2 (fun h9 => by first | exact absurd (by omega) ((fitM_n1 (by omega)).1 h9) | exact absurd (by omega) ((fitM_n1 (by omega)).1 (fitM_c.1 h9)) | exact absurd (fitM_yes h9 (by omega) (by first | assumption | rfl)) (by assumption)))⟩), (show z_1 = x1 * x2 from ez_1)⟩, by rw [ht]; exact hP.sub [0] rfl, hD.sub [0] (by decide +kernel) rfl⟩, hS.F ht⟩) hS.2.2 dX13_times_74
      · rw [lcmp_eq] at c_6
        refine lv_lload_n hx hb dX13_times_31 rfl (lv_at hl 2 rfl) ?_
        refine lv_ldc2 (v := (-1)) hx hb hown (hts (.constantLong RX13 135 (-1)) (List.mem_of_getElem? (i := 2) rfl)) dX13_times_32 ?_
        refine W.lcmp hx hb dX13_times_35 ?_
        refine lv_if_ne (tgt := 47) hx hb dX13_times_36 (by decide +kernel) (fun c_8 => ?_) (fun c_8 => ?_)
        · rw [lcmp_eq] at c_8
          try rw [tl_n1] at c_8
          refine lv_lload_n hx hb dX13_times_47 rfl (lv_at hl 3 rfl) ?_
          refine lv_ldc2 (v := (-1)) hx hb hown (hts (.constantLong RX13 135 (-1)) (List.mem_of_getElem? (i := 2) rfl)) dX13_times_48 ?_
          refine W.lcmp hx hb dX13_times_51 ?_
          refine lv_if_ne (tgt := 67) hx hb dX13_times_52 (by decide +kernel) (fun c_9 => ?_) (fun c_9 => ?_)
          · rw [lcmp_eq] at c_9
            try rw [tl_n1] at c_9
            refine lv_iconst (v := 0) hx hb dX13_times_67 (by decide +kernel) ?_
            refine lv_ior hx hb dX13_times_68 ?_
            refine lv_topi (fun z_10 ez_10 => ?_)
            have hBz_10 : isB z_10 := by rw [ez_10]; exact isB.or hB isB0
            have hOz_10 : z_10.toInt = 0 → ((q 14) : Int32).toInt = 0 ∧ (0 : Int32).toInt = 0 := by rw [ez_10]; exact isB.or0 hB isB0
            refine va_put (D := D) (ci := 10) (v := .int z_10) (ty := .boolean) (C := RX13) (T := TX13) (N := 45) hx hb hts in_X13_times_X13 tyX13 tyX13_ok nmX13 hown hE.1 hP hD hS 0 rfl rfl 14 (by decide +kernel) (hts (.fieldLink RX13 131 "ClauseBookModel" "isMuch" "Z") (List.mem_of_getElem? (i := 1) rfl)) (fun _ h9 => h9) rfl (by decide +kernel) (isB.nar hBz_10) (isB.fits hBz_10) (Nat.le_of_ble_eq_true rfl) dX13_times_69 (fun H locs hP hD hS => ?_)
            obtain ⟨hP, hD⟩ := wPD [(h0, .inr (10, (Value.int (q 0) :: Value.int (q 1) :: Value.int (q 2) :: Value.int (q 3) :: Value.int (q 4) :: Value.int (q 5) :: Value.int (q 6) :: Value.int (q 7) :: Value.ref (a 8) :: Value.ref (a 9) :: Value.ref (a 10) :: Value.ref (a 11) :: Value.ref (a 12) :: Value.ref (a 13) :: Value.int z_10 :: Value.long v :: Value.long w :: Value.ref (a 17) :: Value.ref (a 18) :: Value.ref (a 19) :: Value.ref (a 20) :: Value.ref (a 21) :: Value.ref (a 22) :: Value.ref (a 23) :: Value.int (q 24) :: Value.ref (a 25) :: Value.int (q 26) :: Value.ref (a 27) :: Value.int (q 28) :: Value.int (q 29) :: Value.int (q 30) :: Value.int (q 31) :: Value.int (q 32) :: Value.int (q 33) :: Value.ref (a 34) :: Value.ref (a 35) :: Value.ref (a 36) :: Value.ref (a 37) :: Value.ref (a 38) :: Value.ref (a 39) :: Value.ref (a 40) :: Value.int (q 41) :: Value.ref (a 42) :: Value.int (q 43) :: Value.int (q 44) :: [])))] hP hD rfl
            refine lv_lload hx hb dX13_times_72 (lv_at hl 0 rfl) ?_
            exact W.lret hx hb hr (fun t ht hW => ⟨⟨_, z_10, rfl, ⟨(show isB z_10 from hBz_10), (show (z_10 : Int32).toInt = 0 ↔ (((q 14) : Int32).toInt = 0 ∧ fitM x1 x2) from ⟨(fun h9 => ⟨(hOz_10 h9).1, (by first | exact fitM_0 (by omega) | exact fitM_no (by omega) (by omega) (by first | assumption | rfl) (by assumption))⟩), (fun h9 => by rw [ez_10]; exact or_0 h9.1)⟩), (show z_1 = x1 * x2 from ez_1)⟩, by rw [ht]; exact hP.sub [0] rfl, hD.sub [0] (by decide +kernel) rfl⟩, hS.F ht⟩) hS.2.2 dX13_times_74
          · rw [lcmp_eq] at c_9
            try rw [tl_n1] at c_9
            refine lv_lload_n hx hb dX13_times_55 rfl (lv_at hl 2 rfl) ?_
            refine lv_ldc2 (v := (-9223372036854775808)) hx hb hown (hts (.constantLong RX13 139 (-9223372036854775808)) (List.mem_of_getElem? (i := 3) rfl)) dX13_times_56 ?_
            refine W.lcmp hx hb dX13_times_59 ?_
            refine lv_if_ne (tgt := 67) hx hb dX13_times_60 (by decide +kernel) (fun c_11 => ?_) (fun c_11 => ?_)
            · rw [lcmp_eq] at c_11
              try rw [tl_min] at c_11
              refine lv_iconst (v := 0) hx hb dX13_times_67 (by decide +kernel) ?_
              refine lv_ior hx hb dX13_times_68 ?_
              refine lv_topi (fun z_12 ez_12 => ?_)
              have hBz_12 : isB z_12 := by rw [ez_12]; exact isB.or hB isB0
              have hOz_12 : z_12.toInt = 0 → ((q 14) : Int32).toInt = 0 ∧ (0 : Int32).toInt = 0 := by rw [ez_12]; exact isB.or0 hB isB0
              refine va_put (D := D) (ci := 10) (v := .int z_12) (ty := .boolean) (C := RX13) (T := TX13) (N := 45) hx hb hts in_X13_times_X13 tyX13 tyX13_ok nmX13 hown hE.1 hP hD hS 0 rfl rfl 14 (by decide +kernel) (hts (.fieldLink RX13 131 "ClauseBookModel" "isMuch" "Z") (List.mem_of_getElem? (i := 1) rfl)) (fun _ h9 => h9) rfl (by decide +kernel) (isB.nar hBz_12) (isB.fits hBz_12) (Nat.le_of_ble_eq_true rfl) dX13_times_69 (fun H locs hP hD hS => ?_)
              obtain ⟨hP, hD⟩ := wPD [(h0, .inr (10, (Value.int (q 0) :: Value.int (q 1) :: Value.int (q 2) :: Value.int (q 3) :: Value.int (q 4) :: Value.int (q 5) :: Value.int (q 6) :: Value.int (q 7) :: Value.ref (a 8) :: Value.ref (a 9) :: Value.ref (a 10) :: Value.ref (a 11) :: Value.ref (a 12) :: Value.ref (a 13) :: Value.int z_12 :: Value.long v :: Value.long w :: Value.ref (a 17) :: Value.ref (a 18) :: Value.ref (a 19) :: Value.ref (a 20) :: Value.ref (a 21) :: Value.ref (a 22) :: Value.ref (a 23) :: Value.int (q 24) :: Value.ref (a 25) :: Value.int (q 26) :: Value.ref (a 27) :: Value.int (q 28) :: Value.int (q 29) :: Value.int (q 30) :: Value.int (q 31) :: Value.int (q 32) :: Value.int (q 33) :: Value.ref (a 34) :: Value.ref (a 35) :: Value.ref (a 36) :: Value.ref (a 37) :: Value.ref (a 38) :: Value.ref (a 39) :: Value.ref (a 40) :: Value.int (q 41) :: Value.ref (a 42) :: Value.int (q 43) :: Value.int (q 44) :: [])))] hP hD rfl
              refine lv_lload hx hb dX13_times_72 (lv_at hl 0 rfl) ?_
              exact W.lret hx hb hr (fun t ht hW => ⟨⟨_, z_12, rfl, ⟨(show isB z_12 from hBz_12), (show (z_12 : Int32).toInt = 0 ↔ (((q 14) : Int32).toInt = 0 ∧ fitM x1 x2) from ⟨(fun h9 => ⟨(hOz_12 h9).1, (by first | exact fitM_0 (by omega) | exact fitM_no (by omega) (by omega) (by first | assumption | rfl) (by assumption))⟩), (fun h9 => by rw [ez_12]; exact or_0 h9.1)⟩), (show z_1 = x1 * x2 from ez_1)⟩, by rw [ht]; exact hP.sub [0] rfl, hD.sub [0] (by decide +kernel) rfl⟩, hS.F ht⟩) hS.2.2 dX13_times_74
            · rw [lcmp_eq] at c_11
              try rw [tl_min] at c_11
              refine lv_iconst (v := 1) hx hb dX13_times_63 (by decide +kernel) ?_
              refine lv_goto (tgt := 68) hx hb dX13_times_64 (by decide +kernel) ?_
              refine lv_ior hx hb dX13_times_68 ?_
              refine lv_topi (fun z_13 ez_13 => ?_)
              have hBz_13 : isB z_13 := by rw [ez_13]; exact isB.or hB isB1
              have hOz_13 : z_13.toInt = 0 → ((q 14) : Int32).toInt = 0 ∧ (1 : Int32).toInt = 0 := by rw [ez_13]; exact isB.or0 hB isB1
              refine va_put (D := D) (ci := 10) (v := .int z_13) (ty := .boolean) (C := RX13) (T := TX13) (N := 45) hx hb hts in_X13_times_X13 tyX13 tyX13_ok nmX13 hown hE.1 hP hD hS 0 rfl rfl 14 (by decide +kernel) (hts (.fieldLink RX13 131 "ClauseBookModel" "isMuch" "Z") (List.mem_of_getElem? (i := 1) rfl)) (fun _ h9 => h9) rfl (by decide +kernel) (isB.nar hBz_13) (isB.fits hBz_13) (Nat.le_of_ble_eq_true rfl) dX13_times_69 (fun H locs hP hD hS => ?_)
              obtain ⟨hP, hD⟩ := wPD [(h0, .inr (10, (Value.int (q 0) :: Value.int (q 1) :: Value.int (q 2) :: Value.int (q 3) :: Value.int (q 4) :: Value.int (q 5) :: Value.int (q 6) :: Value.int (q 7) :: Value.ref (a 8) :: Value.ref (a 9) :: Value.ref (a 10) :: Value.ref (a 11) :: Value.ref (a 12) :: Value.ref (a 13) :: Value.int z_13 :: Value.long v :: Value.long w :: Value.ref (a 17) :: Value.ref (a 18) :: Value.ref (a 19) :: Value.ref (a 20) :: Value.ref (a 21) :: Value.ref (a 22) :: Value.ref (a 23) :: Value.int (q 24) :: Value.ref (a 25) :: Value.int (q 26) :: Value.ref (a 27) :: Value.int (q 28) :: Value.int (q 29) :: Value.int (q 30) :: Value.int (q 31) :: Value.int (q 32) :: Value.int (q 33) :: Value.ref (a 34) :: Value.ref (a 35) :: Value.ref (a 36) :: Value.ref (a 37) :: Value.ref (a 38) :: Value.ref (a 39) :: Value.ref (a 40) :: Value.int (q 41) :: Value.ref (a 42) :: Value.int (q 43) :: Value.int (q 44) :: [])))] hP hD rfl
              refine lv_lload hx hb dX13_times_72 (lv_at hl 0 rfl) ?_
              exact W.lret hx hb hr (fun t ht hW => ⟨⟨_, z_13, rfl, ⟨(show isB z_13 from hBz_13), (show (z_13 : Int32).toInt = 0 ↔ (((q 14) : Int32).toInt = 0 ∧ fitM x1 x2) from ⟨(fun h9 => by have h8 := (hOz_13 h9).2; rw [ti_1] at h8; omega), (fun h9 => absurd h9.2 (fun h9 => by first | exact absurd (by omega) ((fitM_n1 (by omega)).1 h9) | exact absurd (by omega) ((fitM_n1 (by omega)).1 (fitM_c.1 h9)) | exact absurd (fitM_yes h9 (by omega) (by first | assumption | rfl)) (by assumption)))⟩), (show z_1 = x1 * x2 from ez_1)⟩, by rw [ht]; exact hP.sub [0] rfl, hD.sub [0] (by decide +kernel) rfl⟩, hS.F ht⟩) hS.2.2 dX13_times_74
        · rw [lcmp_eq] at c_8
          try rw [tl_n1] at c_8
          refine lv_lload_n hx hb dX13_times_39 rfl (lv_at hl 3 rfl) ?_
          refine lv_ldc2 (v := (-9223372036854775808)) hx hb hown (hts (.constantLong RX13 139 (-9223372036854775808)) (List.mem_of_getElem? (i := 3) rfl)) dX13_times_40 ?_
          refine W.lcmp hx hb dX13_times_43 ?_
          refine lv_if_eq (tgt := 63) hx hb dX13_times_44 (by decide +kernel) (fun c_14 => ?_) (fun c_14 => ?_)
          · rw [lcmp_eq] at c_14
            try rw [tl_min] at c_14
            refine lv_iconst (v := 1) hx hb dX13_times_63 (by decide +kernel) ?_
            refine lv_goto (tgt := 68) hx hb dX13_times_64 (by decide +kernel) ?_
            refine lv_ior hx hb dX13_times_68 ?_
            refine lv_topi (fun z_15 ez_15 => ?_)
            have hBz_15 : isB z_15 := by rw [ez_15]; exact isB.or hB isB1
            have hOz_15 : z_15.toInt = 0 → ((q 14) : Int32).toInt = 0 ∧ (1 : Int32).toInt = 0 := by rw [ez_15]; exact isB.or0 hB isB1
            refine va_put (D := D) (ci := 10) (v := .int z_15) (ty := .boolean) (C := RX13) (T := TX13) (N := 45) hx hb hts in_X13_times_X13 tyX13 tyX13_ok nmX13 hown hE.1 hP hD hS 0 rfl rfl 14 (by decide +kernel) (hts (.fieldLink RX13 131 "ClauseBookModel" "isMuch" "Z") (List.mem_of_getElem? (i := 1) rfl)) (fun _ h9 => h9) rfl (by decide +kernel) (isB.nar hBz_15) (isB.fits hBz_15) (Nat.le_of_ble_eq_true rfl) dX13_times_69 (fun H locs hP hD hS => ?_)
            obtain ⟨hP, hD⟩ := wPD [(h0, .inr (10, (Value.int (q 0) :: Value.int (q 1) :: Value.int (q 2) :: Value.int (q 3) :: Value.int (q 4) :: Value.int (q 5) :: Value.int (q 6) :: Value.int (q 7) :: Value.ref (a 8) :: Value.ref (a 9) :: Value.ref (a 10) :: Value.ref (a 11) :: Value.ref (a 12) :: Value.ref (a 13) :: Value.int z_15 :: Value.long v :: Value.long w :: Value.ref (a 17) :: Value.ref (a 18) :: Value.ref (a 19) :: Value.ref (a 20) :: Value.ref (a 21) :: Value.ref (a 22) :: Value.ref (a 23) :: Value.int (q 24) :: Value.ref (a 25) :: Value.int (q 26) :: Value.ref (a 27) :: Value.int (q 28) :: Value.int (q 29) :: Value.int (q 30) :: Value.int (q 31) :: Value.int (q 32) :: Value.int (q 33) :: Value.ref (a 34) :: Value.ref (a 35) :: Value.ref (a 36) :: Value.ref (a 37) :: Value.ref (a 38) :: Value.ref (a 39) :: Value.ref (a 40) :: Value.int (q 41) :: Value.ref (a 42) :: Value.int (q 43) :: Value.int (q 44) :: [])))] hP hD rfl
            refine lv_lload hx hb dX13_times_72 (lv_at hl 0 rfl) ?_
            exact W.lret hx hb hr (fun t ht hW => ⟨⟨_, z_15, rfl, ⟨(show isB z_15 from hBz_15), (show (z_15 : Int32).toInt = 0 ↔ (((q 14) : Int32).toInt = 0 ∧ fitM x1 x2) from ⟨(fun h9 => by have h8 := (hOz_15 h9).2; rw [ti_1] at h8; omega), (fun h9 => absurd h9.2 (fun h9 => by first | exact absurd (by omega) ((fitM_n1 (by omega)).1 h9) | exact absurd (by omega) ((fitM_n1 (by omega)).1 (fitM_c.1 h9)) | exact absurd (fitM_yes h9 (by omega) (by first | assumption | rfl)) (by assumption)))⟩), (show z_1 = x1 * x2 from ez_1)⟩, by rw [ht]; exact hP.sub [0] rfl, hD.sub [0] (by decide +kernel) rfl⟩, hS.F ht⟩) hS.2.2 dX13_times_74
          · rw [lcmp_eq] at c_14
            try rw [tl_min] at c_14
            refine lv_lload_n hx hb dX13_times_47 rfl (lv_at hl 3 rfl) ?_
            refine lv_ldc2 (v := (-1)) hx hb hown (hts (.constantLong RX13 135 (-1)) (List.mem_of_getElem? (i := 2) rfl)) dX13_times_48 ?_
            refine W.lcmp hx hb dX13_times_51 ?_
            refine lv_if_ne (tgt := 67) hx hb dX13_times_52 (by decide +kernel) (fun c_16 => ?_) (fun c_16 => ?_)
            · rw [lcmp_eq] at c_16
              try rw [tl_n1] at c_16
              refine lv_iconst (v := 0) hx hb dX13_times_67 (by decide +kernel) ?_
              refine lv_ior hx hb dX13_times_68 ?_
              refine lv_topi (fun z_17 ez_17 => ?_)
              have hBz_17 : isB z_17 := by rw [ez_17]; exact isB.or hB isB0
              have hOz_17 : z_17.toInt = 0 → ((q 14) : Int32).toInt = 0 ∧ (0 : Int32).toInt = 0 := by rw [ez_17]; exact isB.or0 hB isB0
              refine va_put (D := D) (ci := 10) (v := .int z_17) (ty := .boolean) (C := RX13) (T := TX13) (N := 45) hx hb hts in_X13_times_X13 tyX13 tyX13_ok nmX13 hown hE.1 hP hD hS 0 rfl rfl 14 (by decide +kernel) (hts (.fieldLink RX13 131 "ClauseBookModel" "isMuch" "Z") (List.mem_of_getElem? (i := 1) rfl)) (fun _ h9 => h9) rfl (by decide +kernel) (isB.nar hBz_17) (isB.fits hBz_17) (Nat.le_of_ble_eq_true rfl) dX13_times_69 (fun H locs hP hD hS => ?_)
              obtain ⟨hP, hD⟩ := wPD [(h0, .inr (10, (Value.int (q 0) :: Value.int (q 1) :: Value.int (q 2) :: Value.int (q 3) :: Value.int (q 4) :: Value.int (q 5) :: Value.int (q 6) :: Value.int (q 7) :: Value.ref (a 8) :: Value.ref (a 9) :: Value.ref (a 10) :: Value.ref (a 11) :: Value.ref (a 12) :: Value.ref (a 13) :: Value.int z_17 :: Value.long v :: Value.long w :: Value.ref (a 17) :: Value.ref (a 18) :: Value.ref (a 19) :: Value.ref (a 20) :: Value.ref (a 21) :: Value.ref (a 22) :: Value.ref (a 23) :: Value.int (q 24) :: Value.ref (a 25) :: Value.int (q 26) :: Value.ref (a 27) :: Value.int (q 28) :: Value.int (q 29) :: Value.int (q 30) :: Value.int (q 31) :: Value.int (q 32) :: Value.int (q 33) :: Value.ref (a 34) :: Value.ref (a 35) :: Value.ref (a 36) :: Value.ref (a 37) :: Value.ref (a 38) :: Value.ref (a 39) :: Value.ref (a 40) :: Value.int (q 41) :: Value.ref (a 42) :: Value.int (q 43) :: Value.int (q 44) :: [])))] hP hD rfl
              refine lv_lload hx hb dX13_times_72 (lv_at hl 0 rfl) ?_
              exact W.lret hx hb hr (fun t ht hW => ⟨⟨_, z_17, rfl, ⟨(show isB z_17 from hBz_17), (show (z_17 : Int32).toInt = 0 ↔ (((q 14) : Int32).toInt = 0 ∧ fitM x1 x2) from ⟨(fun h9 => ⟨(hOz_17 h9).1, (by first | exact fitM_0 (by omega) | exact fitM_no (by omega) (by omega) (by first | assumption | rfl) (by assumption))⟩), (fun h9 => by rw [ez_17]; exact or_0 h9.1)⟩), (show z_1 = x1 * x2 from ez_1)⟩, by rw [ht]; exact hP.sub [0] rfl, hD.sub [0] (by decide +kernel) rfl⟩, hS.F ht⟩) hS.2.2 dX13_times_74
            · rw [lcmp_eq] at c_16
              try rw [tl_n1] at c_16
              refine lv_lload_n hx hb dX13_times_55 rfl (lv_at hl 2 rfl) ?_
              refine lv_ldc2 (v := (-9223372036854775808)) hx hb hown (hts (.constantLong RX13 139 (-9223372036854775808)) (List.mem_of_getElem? (i := 3) rfl)) dX13_times_56 ?_
              refine W.lcmp hx hb dX13_times_59 ?_
              refine lv_if_ne (tgt := 67) hx hb dX13_times_60 (by decide +kernel) (fun c_18 => ?_) (fun c_18 => ?_)
              · rw [lcmp_eq] at c_18
                try rw [tl_min] at c_18
                refine lv_iconst (v := 0) hx hb dX13_times_67 (by decide +kernel) ?_
                refine lv_ior hx hb dX13_times_68 ?_
                refine lv_topi (fun z_19 ez_19 => ?_)
                have hBz_19 : isB z_19 := by rw [ez_19]; exact isB.or hB isB0
                have hOz_19 : z_19.toInt = 0 → ((q 14) : Int32).toInt = 0 ∧ (0 : Int32).toInt = 0 := by rw [ez_19]; exact isB.or0 hB isB0
                refine va_put (D := D) (ci := 10) (v := .int z_19) (ty := .boolean) (C := RX13) (T := TX13) (N := 45) hx hb hts in_X13_times_X13 tyX13 tyX13_ok nmX13 hown hE.1 hP hD hS 0 rfl rfl 14 (by decide +kernel) (hts (.fieldLink RX13 131 "ClauseBookModel" "isMuch" "Z") (List.mem_of_getElem? (i := 1) rfl)) (fun _ h9 => h9) rfl (by decide +kernel) (isB.nar hBz_19) (isB.fits hBz_19) (Nat.le_of_ble_eq_true rfl) dX13_times_69 (fun H locs hP hD hS => ?_)
                obtain ⟨hP, hD⟩ := wPD [(h0, .inr (10, (Value.int (q 0) :: Value.int (q 1) :: Value.int (q 2) :: Value.int (q 3) :: Value.int (q 4) :: Value.int (q 5) :: Value.int (q 6) :: Value.int (q 7) :: Value.ref (a 8) :: Value.ref (a 9) :: Value.ref (a 10) :: Value.ref (a 11) :: Value.ref (a 12) :: Value.ref (a 13) :: Value.int z_19 :: Value.long v :: Value.long w :: Value.ref (a 17) :: Value.ref (a 18) :: Value.ref (a 19) :: Value.ref (a 20) :: Value.ref (a 21) :: Value.ref (a 22) :: Value.ref (a 23) :: Value.int (q 24) :: Value.ref (a 25) :: Value.int (q 26) :: Value.ref (a 27) :: Value.int (q 28) :: Value.int (q 29) :: Value.int (q 30) :: Value.int (q 31) :: Value.int (q 32) :: Value.int (q 33) :: Value.ref (a 34) :: Value.ref (a 35) :: Value.ref (a 36) :: Value.ref (a 37) :: Value.ref (a 38) :: Value.ref (a 39) :: Value.ref (a 40) :: Value.int (q 41) :: Value.ref (a 42) :: Value.int (q 43) :: Value.int (q 44) :: [])))] hP hD rfl
                refine lv_lload hx hb dX13_times_72 (lv_at hl 0 rfl) ?_
                exact W.lret hx hb hr (fun t ht hW => ⟨⟨_, z_19, rfl, ⟨(show isB z_19 from hBz_19), (show (z_19 : Int32).toInt = 0 ↔ (((q 14) : Int32).toInt = 0 ∧ fitM x1 x2) from ⟨(fun h9 => ⟨(hOz_19 h9).1, (by first | exact fitM_0 (by omega) | exact fitM_no (by omega) (by omega) (by first | assumption | rfl) (by assumption))⟩), (fun h9 => by rw [ez_19]; exact or_0 h9.1)⟩), (show z_1 = x1 * x2 from ez_1)⟩, by rw [ht]; exact hP.sub [0] rfl, hD.sub [0] (by decide +kernel) rfl⟩, hS.F ht⟩) hS.2.2 dX13_times_74
              · rw [lcmp_eq] at c_18
                try rw [tl_min] at c_18
                refine lv_iconst (v := 1) hx hb dX13_times_63 (by decide +kernel) ?_
                refine lv_goto (tgt := 68) hx hb dX13_times_64 (by decide +kernel) ?_
                refine lv_ior hx hb dX13_times_68 ?_
                refine lv_topi (fun z_20 ez_20 => ?_)
                have hBz_20 : isB z_20 := by rw [ez_20]; exact isB.or hB isB1
                have hOz_20 : z_20.toInt = 0 → ((q 14) : Int32).toInt = 0 ∧ (1 : Int32).toInt = 0 := by rw [ez_20]; exact isB.or0 hB isB1
                refine va_put (D := D) (ci := 10) (v := .int z_20) (ty := .boolean) (C := RX13) (T := TX13) (N := 45) hx hb hts in_X13_times_X13 tyX13 tyX13_ok nmX13 hown hE.1 hP hD hS 0 rfl rfl 14 (by decide +kernel) (hts (.fieldLink RX13 131 "ClauseBookModel" "isMuch" "Z") (List.mem_of_getElem? (i := 1) rfl)) (fun _ h9 => h9) rfl (by decide +kernel) (isB.nar hBz_20) (isB.fits hBz_20) (Nat.le_of_ble_eq_true rfl) dX13_times_69 (fun H locs hP hD hS => ?_)
                obtain ⟨hP, hD⟩ := wPD [(h0, .inr (10, (Value.int (q 0) :: Value.int (q 1) :: Value.int (q 2) :: Value.int (q 3) :: Value.int (q 4) :: Value.int (q 5) :: Value.int (q 6) :: Value.int (q 7) :: Value.ref (a 8) :: Value.ref (a 9) :: Value.ref (a 10) :: Value.ref (a 11) :: Value.ref (a 12) :: Value.ref (a 13) :: Value.int z_20 :: Value.long v :: Value.long w :: Value.ref (a 17) :: Value.ref (a 18) :: Value.ref (a 19) :: Value.ref (a 20) :: Value.ref (a 21) :: Value.ref (a 22) :: Value.ref (a 23) :: Value.int (q 24) :: Value.ref (a 25) :: Value.int (q 26) :: Value.ref (a 27) :: Value.int (q 28) :: Value.int (q 29) :: Value.int (q 30) :: Value.int (q 31) :: Value.int (q 32) :: Value.int (q 33) :: Value.ref (a 34) :: Value.ref (a 35) :: Value.ref (a 36) :: Value.ref (a 37) :: Value.ref (a 38) :: Value.ref (a 39) :: Value.ref (a 40) :: Value.int (q 41) :: Value.ref (a 42) :: Value.int (q 43) :: Value.int (q 44) :: [])))] hP hD rfl
                refine lv_lload hx hb dX13_times_72 (lv_at hl 0 rfl) ?_
                exact W.lret hx hb hr (fun t ht hW => ⟨⟨_, z_20, rfl, ⟨(show isB z_20 from hBz_20), (show (z_20 : Int32).toInt = 0 ↔ (((q 14) : Int32).toInt = 0 ∧ fitM x1 x2) from ⟨(fun h9 => by have h8 := (hOz_20 h9).2; rw [ti_1] at h8; omega), (fun h9 => absurd h9.2 (fun h9 => by first | exact absurd (by omega) ((fitM_n1 (by omega)).1 h9) | exact absurd (by omega) ((fitM_n1 (by omega)).1 (fitM_c.1 h9)) | exact absurd (fitM_yes h9 (by omega) (by first | assumption | rfl)) (by assumption)))⟩), (show z_1 = x1 * x2 from ez_1)⟩, by rw [ht]; exact hP.sub [0] rfl, hD.sub [0] (by decide +kernel) rfl⟩, hS.F ht⟩) hS.2.2 dX13_times_74
theorem dX13_plus_0 : decode cX13_plus 0 = .ok (.lload_n 1, 1) := by decide +kernel
theorem dX13_plus_1 : decode cX13_plus 1 = .ok (.lload_n 3, 1) := by decide +kernel
theorem dX13_plus_10 : decode cX13_plus 10 = .ok (.lload_n 1, 1) := by decide +kernel
theorem dX13_plus_11 : decode cX13_plus 11 = .ok (.lload 5, 2) := by decide +kernel
theorem dX13_plus_13 : decode cX13_plus 13 = .ok (.lxor, 1) := by decide +kernel
theorem dX13_plus_14 : decode cX13_plus 14 = .ok (.lconst 0, 1) := by decide +kernel
theorem dX13_plus_15 : decode cX13_plus 15 = .ok (.lcmp, 1) := by decide +kernel
theorem dX13_plus_16 : decode cX13_plus 16 = .ok (.ifCond .ge 16, 3) := by decide +kernel
theorem dX13_plus_19 : decode cX13_plus 19 = .ok (.lload_n 3, 1) := by decide +kernel
theorem dX13_plus_2 : decode cX13_plus 2 = .ok (.ladd, 1) := by decide +kernel
theorem dX13_plus_20 : decode cX13_plus 20 = .ok (.lload 5, 2) := by decide +kernel
theorem dX13_plus_22 : decode cX13_plus 22 = .ok (.lxor, 1) := by decide +kernel
theorem dX13_plus_23 : decode cX13_plus 23 = .ok (.lconst 0, 1) := by decide +kernel
theorem dX13_plus_24 : decode cX13_plus 24 = .ok (.lcmp, 1) := by decide +kernel
theorem dX13_plus_25 : decode cX13_plus 25 = .ok (.ifCond .ge 7, 3) := by decide +kernel
theorem dX13_plus_28 : decode cX13_plus 28 = .ok (.iconst 1, 1) := by decide +kernel
theorem dX13_plus_29 : decode cX13_plus 29 = .ok (.goto 4, 3) := by decide +kernel
theorem dX13_plus_3 : decode cX13_plus 3 = .ok (.lstore 5, 2) := by decide +kernel
theorem dX13_plus_32 : decode cX13_plus 32 = .ok (.iconst 0, 1) := by decide +kernel
theorem dX13_plus_33 : decode cX13_plus 33 = .ok (.ior, 1) := by decide +kernel
theorem dX13_plus_34 : decode cX13_plus 34 = .ok (.putfield 131, 3) := by decide +kernel
theorem dX13_plus_37 : decode cX13_plus 37 = .ok (.lload 5, 2) := by decide +kernel
theorem dX13_plus_39 : decode cX13_plus 39 = .ok (.lreturn, 1) := by decide +kernel
theorem dX13_plus_5 : decode cX13_plus 5 = .ok (.aload_n 0, 1) := by decide +kernel
theorem dX13_plus_6 : decode cX13_plus 6 = .ok (.dup, 1) := by decide +kernel
theorem dX13_plus_7 : decode cX13_plus 7 = .ok (.getfield 131, 3) := by decide +kernel
set_option maxRecDepth 20000 in
theorem in_X13_plus_X13 : ∀ w ∈ wsX130, w ∈ wsX13_plus := sub_r [2, 3, 4, 5, 6, 7, 8, 9, 10, 11, 12, 13, 14, 15, 16, 17, 18, 19, 20, 21, 22, 23, 24, 25, 26, 27, 28, 29, 30, 31, 32, 33, 34, 35, 36, 37, 38, 39, 40, 41, 42, 43, 44, 45, 46] rfl
set_option maxHeartbeats 4000000 in
set_option maxRecDepth 100000 in
theorem c_X13_plus (l : Launch) (D : va_G) (T : Nat → ClassId) (sz : Nat) (h0 : Nat) (q : Nat → Int32) (v : Int64) (w : Int64) (a : Nat → Nat) (x1 : Int64) (x2 : Int64) (hB : isB (q 14)) : Met l yX13_plus wsX13_plus ({ frames := 0, cells := 0, slots := 0, locals := 0 }) (pW [.ref h0, .long x1, .long x2] D T [(h0, .inr (10, (Value.int (q 0) :: Value.int (q 1) :: Value.int (q 2) :: Value.int (q 3) :: Value.int (q 4) :: Value.int (q 5) :: Value.int (q 6) :: Value.int (q 7) :: Value.ref (a 8) :: Value.ref (a 9) :: Value.ref (a 10) :: Value.ref (a 11) :: Value.ref (a 12) :: Value.ref (a 13) :: Value.int (q 14) :: Value.long v :: Value.long w :: Value.ref (a 17) :: Value.ref (a 18) :: Value.ref (a 19) :: Value.ref (a 20) :: Value.ref (a 21) :: Value.ref (a 22) :: Value.ref (a 23) :: Value.int (q 24) :: Value.ref (a 25) :: Value.int (q 26) :: Value.ref (a 27) :: Value.int (q 28) :: Value.int (q 29) :: Value.int (q 30) :: Value.int (q 31) :: Value.int (q 32) :: Value.int (q 33) :: Value.ref (a 34) :: Value.ref (a 35) :: Value.ref (a 36) :: Value.ref (a 37) :: Value.ref (a 38) :: Value.ref (a 39) :: Value.ref (a 40) :: Value.int (q 41) :: Value.ref (a 42) :: Value.int (q 43) :: Value.int (q 44) :: [])))] sz) (va_Ql (fun (r : Int64) (u : (Int32)) => (isB u) ∧ ((u : Int32).toInt = 0 ↔ (((q 14) : Int32).toInt = 0 ∧ fitA x1 x2)) ∧ (r = x1 + x2)) (bW D (va_A [(h0, .inr (10, (Value.int (q 0) :: Value.int (q 1) :: Value.int (q 2) :: Value.int (q 3) :: Value.int (q 4) :: Value.int (q 5) :: Value.int (q 6) :: Value.int (q 7) :: Value.ref (a 8) :: Value.ref (a 9) :: Value.ref (a 10) :: Value.ref (a 11) :: Value.ref (a 12) :: Value.ref (a 13) :: Value.int (q 14) :: Value.long v :: Value.long w :: Value.ref (a 17) :: Value.ref (a 18) :: Value.ref (a 19) :: Value.ref (a 20) :: Value.ref (a 21) :: Value.ref (a 22) :: Value.ref (a 23) :: Value.int (q 24) :: Value.ref (a 25) :: Value.int (q 26) :: Value.ref (a 27) :: Value.int (q 28) :: Value.int (q 29) :: Value.int (q 30) :: Value.int (q 31) :: Value.int (q 32) :: Value.int (q 33) :: Value.ref (a 34) :: Value.ref (a 35) :: Value.ref (a 36) :: Value.ref (a 37) :: Value.ref (a 38) :: Value.ref (a 39) :: Value.ref (a 40) :: Value.int (q 41) :: Value.ref (a 42) :: Value.int (q 43) :: Value.int (q 44) :: [])))] sz) (fun (u : (Int32)) => [(h0, .inr (10, (Value.int (q 0) :: Value.int (q 1) :: Value.int (q 2) :: Value.int (q 3) :: Value.int (q 4) :: Value.int (q 5) :: Value.int (q 6) :: Value.int (q 7) :: Value.ref (a 8) :: Value.ref (a 9) :: Value.ref (a 10) :: Value.ref (a 11) :: Value.ref (a 12) :: Value.ref (a 13) :: Value.int u :: Value.long v :: Value.long w :: Value.ref (a 17) :: Value.ref (a 18) :: Value.ref (a 19) :: Value.ref (a 20) :: Value.ref (a 21) :: Value.ref (a 22) :: Value.ref (a 23) :: Value.int (q 24) :: Value.ref (a 25) :: Value.int (q 26) :: Value.ref (a 27) :: Value.int (q 28) :: Value.int (q 29) :: Value.int (q 30) :: Value.int (q 31) :: Value.int (q 32) :: Value.int (q 33) :: Value.ref (a 34) :: Value.ref (a 35) :: Value.ref (a 36) :: Value.ref (a 37) :: Value.ref (a 38) :: Value.ref (a 39) :: Value.ref (a 40) :: Value.int (q 41) :: Value.ref (a 42) :: Value.int (q 43) :: Value.int (q 44) :: [])))])) (va_A [(h0, .inr (10, (Value.int (q 0) :: Value.int (q 1) :: Value.int (q 2) :: Value.int (q 3) :: Value.int (q 4) :: Value.int (q 5) :: Value.int (q 6) :: Value.int (q 7) :: Value.ref (a 8) :: Value.ref (a 9) :: Value.ref (a 10) :: Value.ref (a 11) :: Value.ref (a 12) :: Value.ref (a 13) :: Value.int (q 14) :: Value.long v :: Value.long w :: Value.ref (a 17) :: Value.ref (a 18) :: Value.ref (a 19) :: Value.ref (a 20) :: Value.ref (a 21) :: Value.ref (a 22) :: Value.ref (a 23) :: Value.int (q 24) :: Value.ref (a 25) :: Value.int (q 26) :: Value.ref (a 27) :: Value.int (q 28) :: Value.int (q 29) :: Value.int (q 30) :: Value.int (q 31) :: Value.int (q 32) :: Value.int (q 33) :: Value.ref (a 34) :: Value.ref (a 35) :: Value.ref (a 36) :: Value.ref (a 37) :: Value.ref (a 38) :: Value.ref (a 39) :: Value.ref (a 40) :: Value.int (q 41) :: Value.ref (a 42) :: Value.int (q 43) :: Value.int (q 44) :: [])))] sz)) 0 0 (va_A [(h0, .inr (10, (Value.int (q 0) :: Value.int (q 1) :: Value.int (q 2) :: Value.int (q 3) :: Value.int (q 4) :: Value.int (q 5) :: Value.int (q 6) :: Value.int (q 7) :: Value.ref (a 8) :: Value.ref (a 9) :: Value.ref (a 10) :: Value.ref (a 11) :: Value.ref (a 12) :: Value.ref (a 13) :: Value.int (q 14) :: Value.long v :: Value.long w :: Value.ref (a 17) :: Value.ref (a 18) :: Value.ref (a 19) :: Value.ref (a 20) :: Value.ref (a 21) :: Value.ref (a 22) :: Value.ref (a 23) :: Value.int (q 24) :: Value.ref (a 25) :: Value.int (q 26) :: Value.ref (a 27) :: Value.int (q 28) :: Value.int (q 29) :: Value.int (q 30) :: Value.int (q 31) :: Value.int (q 32) :: Value.int (q 33) :: Value.ref (a 34) :: Value.ref (a 35) :: Value.ref (a 36) :: Value.ref (a 37) :: Value.ref (a 38) :: Value.ref (a 39) :: Value.ref (a 40) :: Value.int (q 41) :: Value.ref (a 42) :: Value.int (q 43) :: Value.int (q 44) :: [])))] sz) := by
  refine Met.ofW (cc := cX13_plus) (maxL := 7) (ret := (some .long)) (by decide +kernel) rfl ?_
  intro p e s m args below meth c s₁ B hml hv
  obtain ⟨rfl, hsz, hP, hE, hD0⟩ := hv
  have hx := B.exec
  have hb := B.bytes
  have hr := B.returns
  have hts := atoms_spec (ws := wsX13_plus) B.pre
  have hown : s.vm.findClass RX13 = some m.cls := findClass_of_methodNamed B.named
  have hlocks := B.notSynchronized
  subst hsz
  have hD := hD0.self (sz := s.heap.size)
  generalize hAe : va_A [(h0, .inr (10, (Value.int (q 0) :: Value.int (q 1) :: Value.int (q 2) :: Value.int (q 3) :: Value.int (q 4) :: Value.int (q 5) :: Value.int (q 6) :: Value.int (q 7) :: Value.ref (a 8) :: Value.ref (a 9) :: Value.ref (a 10) :: Value.ref (a 11) :: Value.ref (a 12) :: Value.ref (a 13) :: Value.int (q 14) :: Value.long v :: Value.long w :: Value.ref (a 17) :: Value.ref (a 18) :: Value.ref (a 19) :: Value.ref (a 20) :: Value.ref (a 21) :: Value.ref (a 22) :: Value.ref (a 23) :: Value.int (q 24) :: Value.ref (a 25) :: Value.int (q 26) :: Value.ref (a 27) :: Value.int (q 28) :: Value.int (q 29) :: Value.int (q 30) :: Value.int (q 31) :: Value.int (q 32) :: Value.int (q 33) :: Value.ref (a 34) :: Value.ref (a 35) :: Value.ref (a 36) :: Value.ref (a 37) :: Value.ref (a 38) :: Value.ref (a 39) :: Value.ref (a 40) :: Value.int (q 41) :: Value.ref (a 42) :: Value.int (q 43) :: Value.int (q 44) :: [])))] s.heap.size = A at hD ⊢
  have hA : ∀ q : Nat, s.heap.size ≤ q → A q := fun q h => by rw [← hAe]; exact Or.inr h
  have hS : va_S A s.heap s.heap [] := va_S.rf
  have hP : va_P D vwCl [(h0, .inr (10, (Value.int (q 0) :: Value.int (q 1) :: Value.int (q 2) :: Value.int (q 3) :: Value.int (q 4) :: Value.int (q 5) :: Value.int (q 6) :: Value.int (q 7) :: Value.ref (a 8) :: Value.ref (a 9) :: Value.ref (a 10) :: Value.ref (a 11) :: Value.ref (a 12) :: Value.ref (a 13) :: Value.int (q 14) :: Value.long v :: Value.long w :: Value.ref (a 17) :: Value.ref (a 18) :: Value.ref (a 19) :: Value.ref (a 20) :: Value.ref (a 21) :: Value.ref (a 22) :: Value.ref (a 23) :: Value.int (q 24) :: Value.ref (a 25) :: Value.int (q 26) :: Value.ref (a 27) :: Value.int (q 28) :: Value.int (q 29) :: Value.int (q 30) :: Value.int (q 31) :: Value.int (q 32) :: Value.int (q 33) :: Value.ref (a 34) :: Value.ref (a 35) :: Value.ref (a 36) :: Value.ref (a 37) :: Value.ref (a 38) :: Value.ref (a 39) :: Value.ref (a 40) :: Value.int (q 41) :: Value.ref (a 42) :: Value.int (q 43) :: Value.int (q 44) :: [])))] s.heap := hP
  have hl := lv_entry ([.ref h0, .long x1, .long x2]) (n := 7) (Nat.le_of_ble_eq_true rfl)
  rw [lg_entry_eq]
  generalize (lg_sl ([.ref h0, .long x1, .long x2]) ++ List.replicate (7 - (lg_sl ([.ref h0, .long x1, .long x2])).length) Slot.unset).toArray = ls at hl ⊢
  have hl : lv_has ls 7 [(0, .ref h0), (1, .long x1), (3, .long x2)] := hl
  clear hD0
  refine lv_lload_n hx hb dX13_plus_0 rfl (lv_at hl 1 rfl) ?_
  refine lv_lload_n hx hb dX13_plus_1 rfl (lv_at hl 2 rfl) ?_
  refine lv_ladd hx hb dX13_plus_2 ?_
  refine lv_topl (fun z_1 ez_1 => ?_)
  refine lv_lstore (lv' := [(5, .long z_1), (0, .ref h0), (1, .long x1), (3, .long x2)]) hx hb dX13_plus_3 hl (by decide +kernel) rfl (fun ls hl => ?_)
  refine lv_aload_n hx hb dX13_plus_5 rfl (lv_at hl 1 rfl) ?_
  refine lv_dup hx hb dX13_plus_6 rfl ?_
  refine va_get (D := D) (ci := 10) (v := .int (q 14)) (C := RX13) (T := TX13) (N := 45) hx hb hts in_X13_plus_X13 hown hE.1 hP 0 rfl rfl 14 (by decide +kernel) (hts (.fieldLink RX13 131 "ClauseBookModel" "isMuch" "Z") (List.mem_of_getElem? (i := 1) rfl)) (fun _ h9 => h9) rfl dX13_plus_7 ?_
  refine lv_lload_n hx hb dX13_plus_10 rfl (lv_at hl 2 rfl) ?_
  refine lv_lload hx hb dX13_plus_11 (lv_at hl 0 rfl) ?_
  refine lv_lxor hx hb dX13_plus_13 ?_
  refine lv_lconst (v := 0) hx hb dX13_plus_14 (by decide +kernel) ?_
  refine W.lcmp hx hb dX13_plus_15 ?_
  refine lv_if_ge (tgt := 32) hx hb dX13_plus_16 (by decide +kernel) (fun c_2 => ?_) (fun c_2 => ?_)
  · rw [lcmp_ge] at c_2
    try rw [tl_0] at c_2
    refine lv_iconst (v := 0) hx hb dX13_plus_32 (by decide +kernel) ?_
    refine lv_ior hx hb dX13_plus_33 ?_
    refine lv_topi (fun z_3 ez_3 => ?_)
    have hBz_3 : isB z_3 := by rw [ez_3]; exact isB.or hB isB0
    have hOz_3 : z_3.toInt = 0 → ((q 14) : Int32).toInt = 0 ∧ (0 : Int32).toInt = 0 := by rw [ez_3]; exact isB.or0 hB isB0
    refine va_put (D := D) (ci := 10) (v := .int z_3) (ty := .boolean) (C := RX13) (T := TX13) (N := 45) hx hb hts in_X13_plus_X13 tyX13 tyX13_ok nmX13 hown hE.1 hP hD hS 0 rfl rfl 14 (by decide +kernel) (hts (.fieldLink RX13 131 "ClauseBookModel" "isMuch" "Z") (List.mem_of_getElem? (i := 1) rfl)) (fun _ h9 => h9) rfl (by decide +kernel) (isB.nar hBz_3) (isB.fits hBz_3) (Nat.le_of_ble_eq_true rfl) dX13_plus_34 (fun H locs hP hD hS => ?_)
    obtain ⟨hP, hD⟩ := wPD [(h0, .inr (10, (Value.int (q 0) :: Value.int (q 1) :: Value.int (q 2) :: Value.int (q 3) :: Value.int (q 4) :: Value.int (q 5) :: Value.int (q 6) :: Value.int (q 7) :: Value.ref (a 8) :: Value.ref (a 9) :: Value.ref (a 10) :: Value.ref (a 11) :: Value.ref (a 12) :: Value.ref (a 13) :: Value.int z_3 :: Value.long v :: Value.long w :: Value.ref (a 17) :: Value.ref (a 18) :: Value.ref (a 19) :: Value.ref (a 20) :: Value.ref (a 21) :: Value.ref (a 22) :: Value.ref (a 23) :: Value.int (q 24) :: Value.ref (a 25) :: Value.int (q 26) :: Value.ref (a 27) :: Value.int (q 28) :: Value.int (q 29) :: Value.int (q 30) :: Value.int (q 31) :: Value.int (q 32) :: Value.int (q 33) :: Value.ref (a 34) :: Value.ref (a 35) :: Value.ref (a 36) :: Value.ref (a 37) :: Value.ref (a 38) :: Value.ref (a 39) :: Value.ref (a 40) :: Value.int (q 41) :: Value.ref (a 42) :: Value.int (q 43) :: Value.int (q 44) :: [])))] hP hD rfl
    refine lv_lload hx hb dX13_plus_37 (lv_at hl 0 rfl) ?_
    exact W.lret hx hb hr (fun t ht hW => ⟨⟨_, z_3, rfl, ⟨(show isB z_3 from hBz_3), (show (z_3 : Int32).toInt = 0 ↔ (((q 14) : Int32).toInt = 0 ∧ fitA x1 x2) from ⟨(fun h9 => ⟨(hOz_3 h9).1, ((fitA_iff ez_1).2 (by omega))⟩), (fun h9 => by rw [ez_3]; exact or_0 h9.1)⟩), (show z_1 = x1 + x2 from ez_1)⟩, by rw [ht]; exact hP.sub [0] rfl, hD.sub [0] (by decide +kernel) rfl⟩, hS.F ht⟩) hS.2.2 dX13_plus_39
  · rw [lcmp_ge] at c_2
    try rw [tl_0] at c_2
    refine lv_lload_n hx hb dX13_plus_19 rfl (lv_at hl 3 rfl) ?_
    refine lv_lload hx hb dX13_plus_20 (lv_at hl 0 rfl) ?_
    refine lv_lxor hx hb dX13_plus_22 ?_
    refine lv_lconst (v := 0) hx hb dX13_plus_23 (by decide +kernel) ?_
    refine W.lcmp hx hb dX13_plus_24 ?_
    refine lv_if_ge (tgt := 32) hx hb dX13_plus_25 (by decide +kernel) (fun c_4 => ?_) (fun c_4 => ?_)
    · rw [lcmp_ge] at c_4
      try rw [tl_0] at c_4
      refine lv_iconst (v := 0) hx hb dX13_plus_32 (by decide +kernel) ?_
      refine lv_ior hx hb dX13_plus_33 ?_
      refine lv_topi (fun z_5 ez_5 => ?_)
      have hBz_5 : isB z_5 := by rw [ez_5]; exact isB.or hB isB0
      have hOz_5 : z_5.toInt = 0 → ((q 14) : Int32).toInt = 0 ∧ (0 : Int32).toInt = 0 := by rw [ez_5]; exact isB.or0 hB isB0
      refine va_put (D := D) (ci := 10) (v := .int z_5) (ty := .boolean) (C := RX13) (T := TX13) (N := 45) hx hb hts in_X13_plus_X13 tyX13 tyX13_ok nmX13 hown hE.1 hP hD hS 0 rfl rfl 14 (by decide +kernel) (hts (.fieldLink RX13 131 "ClauseBookModel" "isMuch" "Z") (List.mem_of_getElem? (i := 1) rfl)) (fun _ h9 => h9) rfl (by decide +kernel) (isB.nar hBz_5) (isB.fits hBz_5) (Nat.le_of_ble_eq_true rfl) dX13_plus_34 (fun H locs hP hD hS => ?_)
      obtain ⟨hP, hD⟩ := wPD [(h0, .inr (10, (Value.int (q 0) :: Value.int (q 1) :: Value.int (q 2) :: Value.int (q 3) :: Value.int (q 4) :: Value.int (q 5) :: Value.int (q 6) :: Value.int (q 7) :: Value.ref (a 8) :: Value.ref (a 9) :: Value.ref (a 10) :: Value.ref (a 11) :: Value.ref (a 12) :: Value.ref (a 13) :: Value.int z_5 :: Value.long v :: Value.long w :: Value.ref (a 17) :: Value.ref (a 18) :: Value.ref (a 19) :: Value.ref (a 20) :: Value.ref (a 21) :: Value.ref (a 22) :: Value.ref (a 23) :: Value.int (q 24) :: Value.ref (a 25) :: Value.int (q 26) :: Value.ref (a 27) :: Value.int (q 28) :: Value.int (q 29) :: Value.int (q 30) :: Value.int (q 31) :: Value.int (q 32) :: Value.int (q 33) :: Value.ref (a 34) :: Value.ref (a 35) :: Value.ref (a 36) :: Value.ref (a 37) :: Value.ref (a 38) :: Value.ref (a 39) :: Value.ref (a 40) :: Value.int (q 41) :: Value.ref (a 42) :: Value.int (q 43) :: Value.int (q 44) :: [])))] hP hD rfl
      refine lv_lload hx hb dX13_plus_37 (lv_at hl 0 rfl) ?_
      exact W.lret hx hb hr (fun t ht hW => ⟨⟨_, z_5, rfl, ⟨(show isB z_5 from hBz_5), (show (z_5 : Int32).toInt = 0 ↔ (((q 14) : Int32).toInt = 0 ∧ fitA x1 x2) from ⟨(fun h9 => ⟨(hOz_5 h9).1, ((fitA_iff ez_1).2 (by omega))⟩), (fun h9 => by rw [ez_5]; exact or_0 h9.1)⟩), (show z_1 = x1 + x2 from ez_1)⟩, by rw [ht]; exact hP.sub [0] rfl, hD.sub [0] (by decide +kernel) rfl⟩, hS.F ht⟩) hS.2.2 dX13_plus_39
    · rw [lcmp_ge] at c_4
      try rw [tl_0] at c_4
      refine lv_iconst (v := 1) hx hb dX13_plus_28 (by decide +kernel) ?_
      refine lv_goto (tgt := 33) hx hb dX13_plus_29 (by decide +kernel) ?_
      refine lv_ior hx hb dX13_plus_33 ?_
      refine lv_topi (fun z_6 ez_6 => ?_)
      have hBz_6 : isB z_6 := by rw [ez_6]; exact isB.or hB isB1
      have hOz_6 : z_6.toInt = 0 → ((q 14) : Int32).toInt = 0 ∧ (1 : Int32).toInt = 0 := by rw [ez_6]; exact isB.or0 hB isB1
      refine va_put (D := D) (ci := 10) (v := .int z_6) (ty := .boolean) (C := RX13) (T := TX13) (N := 45) hx hb hts in_X13_plus_X13 tyX13 tyX13_ok nmX13 hown hE.1 hP hD hS 0 rfl rfl 14 (by decide +kernel) (hts (.fieldLink RX13 131 "ClauseBookModel" "isMuch" "Z") (List.mem_of_getElem? (i := 1) rfl)) (fun _ h9 => h9) rfl (by decide +kernel) (isB.nar hBz_6) (isB.fits hBz_6) (Nat.le_of_ble_eq_true rfl) dX13_plus_34 (fun H locs hP hD hS => ?_)
      obtain ⟨hP, hD⟩ := wPD [(h0, .inr (10, (Value.int (q 0) :: Value.int (q 1) :: Value.int (q 2) :: Value.int (q 3) :: Value.int (q 4) :: Value.int (q 5) :: Value.int (q 6) :: Value.int (q 7) :: Value.ref (a 8) :: Value.ref (a 9) :: Value.ref (a 10) :: Value.ref (a 11) :: Value.ref (a 12) :: Value.ref (a 13) :: Value.int z_6 :: Value.long v :: Value.long w :: Value.ref (a 17) :: Value.ref (a 18) :: Value.ref (a 19) :: Value.ref (a 20) :: Value.ref (a 21) :: Value.ref (a 22) :: Value.ref (a 23) :: Value.int (q 24) :: Value.ref (a 25) :: Value.int (q 26) :: Value.ref (a 27) :: Value.int (q 28) :: Value.int (q 29) :: Value.int (q 30) :: Value.int (q 31) :: Value.int (q 32) :: Value.int (q 33) :: Value.ref (a 34) :: Value.ref (a 35) :: Value.ref (a 36) :: Value.ref (a 37) :: Value.ref (a 38) :: Value.ref (a 39) :: Value.ref (a 40) :: Value.int (q 41) :: Value.ref (a 42) :: Value.int (q 43) :: Value.int (q 44) :: [])))] hP hD rfl
      refine lv_lload hx hb dX13_plus_37 (lv_at hl 0 rfl) ?_
      exact W.lret hx hb hr (fun t ht hW => ⟨⟨_, z_6, rfl, ⟨(show isB z_6 from hBz_6), (show (z_6 : Int32).toInt = 0 ↔ (((q 14) : Int32).toInt = 0 ∧ fitA x1 x2) from ⟨(fun h9 => by have h8 := (hOz_6 h9).2; rw [ti_1] at h8; omega), (fun h9 => absurd h9.2 (fun h9 => absurd ((fitA_iff ez_1).1 h9) (by omega)))⟩), (show z_1 = x1 + x2 from ez_1)⟩, by rw [ht]; exact hP.sub [0] rfl, hD.sub [0] (by decide +kernel) rfl⟩, hS.F ht⟩) hS.2.2 dX13_plus_39
theorem dX13_becomes_0 : decode cX13_becomes 0 = .ok (.aload_n 0, 1) := by decide +kernel
theorem dX13_becomes_1 : decode cX13_becomes 1 = .ok (.getfield 131, 3) := by decide +kernel
theorem dX13_becomes_12 : decode cX13_becomes 12 = .ok (.lstore 5, 2) := by decide +kernel
theorem dX13_becomes_14 : decode cX13_becomes 14 = .ok (.aload_n 0, 1) := by decide +kernel
theorem dX13_becomes_15 : decode cX13_becomes 15 = .ok (.lload_n 1, 1) := by decide +kernel
theorem dX13_becomes_16 : decode cX13_becomes 16 = .ok (.lload 5, 2) := by decide +kernel
theorem dX13_becomes_18 : decode cX13_becomes 18 = .ok (.ldiv, 1) := by decide +kernel
theorem dX13_becomes_19 : decode cX13_becomes 19 = .ok (.putfield 145, 3) := by decide +kernel
theorem dX13_becomes_22 : decode cX13_becomes 22 = .ok (.aload_n 0, 1) := by decide +kernel
theorem dX13_becomes_23 : decode cX13_becomes 23 = .ok (.lload_n 3, 1) := by decide +kernel
theorem dX13_becomes_24 : decode cX13_becomes 24 = .ok (.lload 5, 2) := by decide +kernel
theorem dX13_becomes_26 : decode cX13_becomes 26 = .ok (.ldiv, 1) := by decide +kernel
theorem dX13_becomes_27 : decode cX13_becomes 27 = .ok (.putfield 149, 3) := by decide +kernel
theorem dX13_becomes_30 : decode cX13_becomes 30 = .ok (.return_, 1) := by decide +kernel
theorem dX13_becomes_4 : decode cX13_becomes 4 = .ok (.ifCond .ne 26, 3) := by decide +kernel
theorem dX13_becomes_7 : decode cX13_becomes 7 = .ok (.lload_n 1, 1) := by decide +kernel
theorem dX13_becomes_8 : decode cX13_becomes 8 = .ok (.lload_n 3, 1) := by decide +kernel
theorem dX13_becomes_9 : decode cX13_becomes 9 = .ok (.invokestatic 141, 3) := by decide +kernel
set_option maxRecDepth 20000 in
theorem ggX13_becomes_X13_divisor : GoodIn wsX13_becomes wsX13_divisor := goodIn_r _ [7] rfl (by decide +kernel)
set_option maxRecDepth 20000 in
theorem gX13_becomes_X13_divisor : GoodIn wsX13_becomes (va_wsS RX13 141 yX13_divisor wsX13_divisor) := goodIn_app (goodIn_of _ (by decide +kernel)) ggX13_becomes_X13_divisor
theorem hs_X13_divisor : yX13_divisor.cls ≠ "java/lang/invoke/MethodHandle" ∧ yX13_divisor.cls ≠ "java/lang/invoke/VarHandle" ∧ (parseMethodDescriptor yX13_divisor.desc).map (fun d => d.parameters.length) = some 2 := by decide +kernel
set_option maxRecDepth 20000 in
theorem in_X13_becomes_X13 : ∀ w ∈ wsX130, w ∈ wsX13_becomes := sub_r [8, 9, 10, 11, 12, 13, 14, 15, 16, 17, 18, 19, 20, 21, 22, 23, 24, 25, 26, 27, 28, 29, 30, 31, 32, 33, 34, 35, 36, 37, 38, 39, 40, 41, 42, 43, 44, 45, 46, 47, 48, 49, 50, 51, 52] rfl
set_option maxHeartbeats 4000000 in
set_option maxRecDepth 100000 in
theorem c_X13_becomes (l : Launch) (D : va_G) (T : Nat → ClassId) (sz : Nat) (h0 : Nat) (q : Nat → Int32) (v : Int64) (w : Int64) (a : Nat → Nat) (x1 : Int64) (x2 : Int64) (hp : ((q 14) : Int32).toInt = 0 → 1 ≤ x2.toInt) : Met l yX13_becomes wsX13_becomes ({ frames := 1, cells := 0, slots := 0, locals := 29 }) (pW [.ref h0, .long x1, .long x2] D T [(h0, .inr (10, (Value.int (q 0) :: Value.int (q 1) :: Value.int (q 2) :: Value.int (q 3) :: Value.int (q 4) :: Value.int (q 5) :: Value.int (q 6) :: Value.int (q 7) :: Value.ref (a 8) :: Value.ref (a 9) :: Value.ref (a 10) :: Value.ref (a 11) :: Value.ref (a 12) :: Value.ref (a 13) :: Value.int (q 14) :: Value.long v :: Value.long w :: Value.ref (a 17) :: Value.ref (a 18) :: Value.ref (a 19) :: Value.ref (a 20) :: Value.ref (a 21) :: Value.ref (a 22) :: Value.ref (a 23) :: Value.int (q 24) :: Value.ref (a 25) :: Value.int (q 26) :: Value.ref (a 27) :: Value.int (q 28) :: Value.int (q 29) :: Value.int (q 30) :: Value.int (q 31) :: Value.int (q 32) :: Value.int (q 33) :: Value.ref (a 34) :: Value.ref (a 35) :: Value.ref (a 36) :: Value.ref (a 37) :: Value.ref (a 38) :: Value.ref (a 39) :: Value.ref (a 40) :: Value.int (q 41) :: Value.ref (a 42) :: Value.int (q 43) :: Value.int (q 44) :: [])))] sz) (va_Qv (fun (u : (Int64) × (Int64)) => (((q 14) : Int32).toInt = 0 ∨ 1 ≤ w.toInt → 1 ≤ u.2.toInt) ∧ (((q 14) : Int32).toInt = 0 → ((u.1, u.2) : Int64 × Int64) = redW x1 x2)) (bW D (va_A [(h0, .inr (10, (Value.int (q 0) :: Value.int (q 1) :: Value.int (q 2) :: Value.int (q 3) :: Value.int (q 4) :: Value.int (q 5) :: Value.int (q 6) :: Value.int (q 7) :: Value.ref (a 8) :: Value.ref (a 9) :: Value.ref (a 10) :: Value.ref (a 11) :: Value.ref (a 12) :: Value.ref (a 13) :: Value.int (q 14) :: Value.long v :: Value.long w :: Value.ref (a 17) :: Value.ref (a 18) :: Value.ref (a 19) :: Value.ref (a 20) :: Value.ref (a 21) :: Value.ref (a 22) :: Value.ref (a 23) :: Value.int (q 24) :: Value.ref (a 25) :: Value.int (q 26) :: Value.ref (a 27) :: Value.int (q 28) :: Value.int (q 29) :: Value.int (q 30) :: Value.int (q 31) :: Value.int (q 32) :: Value.int (q 33) :: Value.ref (a 34) :: Value.ref (a 35) :: Value.ref (a 36) :: Value.ref (a 37) :: Value.ref (a 38) :: Value.ref (a 39) :: Value.ref (a 40) :: Value.int (q 41) :: Value.ref (a 42) :: Value.int (q 43) :: Value.int (q 44) :: [])))] sz) (fun (u : (Int64) × (Int64)) => [(h0, .inr (10, (Value.int (q 0) :: Value.int (q 1) :: Value.int (q 2) :: Value.int (q 3) :: Value.int (q 4) :: Value.int (q 5) :: Value.int (q 6) :: Value.int (q 7) :: Value.ref (a 8) :: Value.ref (a 9) :: Value.ref (a 10) :: Value.ref (a 11) :: Value.ref (a 12) :: Value.ref (a 13) :: Value.int (q 14) :: Value.long u.1 :: Value.long u.2 :: Value.ref (a 17) :: Value.ref (a 18) :: Value.ref (a 19) :: Value.ref (a 20) :: Value.ref (a 21) :: Value.ref (a 22) :: Value.ref (a 23) :: Value.int (q 24) :: Value.ref (a 25) :: Value.int (q 26) :: Value.ref (a 27) :: Value.int (q 28) :: Value.int (q 29) :: Value.int (q 30) :: Value.int (q 31) :: Value.int (q 32) :: Value.int (q 33) :: Value.ref (a 34) :: Value.ref (a 35) :: Value.ref (a 36) :: Value.ref (a 37) :: Value.ref (a 38) :: Value.ref (a 39) :: Value.ref (a 40) :: Value.int (q 41) :: Value.ref (a 42) :: Value.int (q 43) :: Value.int (q 44) :: [])))])) (va_A [(h0, .inr (10, (Value.int (q 0) :: Value.int (q 1) :: Value.int (q 2) :: Value.int (q 3) :: Value.int (q 4) :: Value.int (q 5) :: Value.int (q 6) :: Value.int (q 7) :: Value.ref (a 8) :: Value.ref (a 9) :: Value.ref (a 10) :: Value.ref (a 11) :: Value.ref (a 12) :: Value.ref (a 13) :: Value.int (q 14) :: Value.long v :: Value.long w :: Value.ref (a 17) :: Value.ref (a 18) :: Value.ref (a 19) :: Value.ref (a 20) :: Value.ref (a 21) :: Value.ref (a 22) :: Value.ref (a 23) :: Value.int (q 24) :: Value.ref (a 25) :: Value.int (q 26) :: Value.ref (a 27) :: Value.int (q 28) :: Value.int (q 29) :: Value.int (q 30) :: Value.int (q 31) :: Value.int (q 32) :: Value.int (q 33) :: Value.ref (a 34) :: Value.ref (a 35) :: Value.ref (a 36) :: Value.ref (a 37) :: Value.ref (a 38) :: Value.ref (a 39) :: Value.ref (a 40) :: Value.int (q 41) :: Value.ref (a 42) :: Value.int (q 43) :: Value.int (q 44) :: [])))] sz)) 0 0 (va_A [(h0, .inr (10, (Value.int (q 0) :: Value.int (q 1) :: Value.int (q 2) :: Value.int (q 3) :: Value.int (q 4) :: Value.int (q 5) :: Value.int (q 6) :: Value.int (q 7) :: Value.ref (a 8) :: Value.ref (a 9) :: Value.ref (a 10) :: Value.ref (a 11) :: Value.ref (a 12) :: Value.ref (a 13) :: Value.int (q 14) :: Value.long v :: Value.long w :: Value.ref (a 17) :: Value.ref (a 18) :: Value.ref (a 19) :: Value.ref (a 20) :: Value.ref (a 21) :: Value.ref (a 22) :: Value.ref (a 23) :: Value.int (q 24) :: Value.ref (a 25) :: Value.int (q 26) :: Value.ref (a 27) :: Value.int (q 28) :: Value.int (q 29) :: Value.int (q 30) :: Value.int (q 31) :: Value.int (q 32) :: Value.int (q 33) :: Value.ref (a 34) :: Value.ref (a 35) :: Value.ref (a 36) :: Value.ref (a 37) :: Value.ref (a 38) :: Value.ref (a 39) :: Value.ref (a 40) :: Value.int (q 41) :: Value.ref (a 42) :: Value.int (q 43) :: Value.int (q 44) :: [])))] sz) := by
  refine Met.ofW (cc := cX13_becomes) (maxL := 7) (ret := none) (by decide +kernel) rfl ?_
  intro p e s m args below meth c s₁ B hml hv
  obtain ⟨rfl, hsz, hP, hE, hD0⟩ := hv
  have hx := B.exec
  have hb := B.bytes
  have hr := B.returns
  have hts := atoms_spec (ws := wsX13_becomes) B.pre
  have hown : s.vm.findClass RX13 = some m.cls := findClass_of_methodNamed B.named
  have hlocks := B.notSynchronized
  subst hsz
  have hD := hD0.self (sz := s.heap.size)
  generalize hAe : va_A [(h0, .inr (10, (Value.int (q 0) :: Value.int (q 1) :: Value.int (q 2) :: Value.int (q 3) :: Value.int (q 4) :: Value.int (q 5) :: Value.int (q 6) :: Value.int (q 7) :: Value.ref (a 8) :: Value.ref (a 9) :: Value.ref (a 10) :: Value.ref (a 11) :: Value.ref (a 12) :: Value.ref (a 13) :: Value.int (q 14) :: Value.long v :: Value.long w :: Value.ref (a 17) :: Value.ref (a 18) :: Value.ref (a 19) :: Value.ref (a 20) :: Value.ref (a 21) :: Value.ref (a 22) :: Value.ref (a 23) :: Value.int (q 24) :: Value.ref (a 25) :: Value.int (q 26) :: Value.ref (a 27) :: Value.int (q 28) :: Value.int (q 29) :: Value.int (q 30) :: Value.int (q 31) :: Value.int (q 32) :: Value.int (q 33) :: Value.ref (a 34) :: Value.ref (a 35) :: Value.ref (a 36) :: Value.ref (a 37) :: Value.ref (a 38) :: Value.ref (a 39) :: Value.ref (a 40) :: Value.int (q 41) :: Value.ref (a 42) :: Value.int (q 43) :: Value.int (q 44) :: [])))] s.heap.size = A at hD ⊢
  have hA : ∀ q : Nat, s.heap.size ≤ q → A q := fun q h => by rw [← hAe]; exact Or.inr h
  have hS : va_S A s.heap s.heap [] := va_S.rf
  have hP : va_P D vwCl [(h0, .inr (10, (Value.int (q 0) :: Value.int (q 1) :: Value.int (q 2) :: Value.int (q 3) :: Value.int (q 4) :: Value.int (q 5) :: Value.int (q 6) :: Value.int (q 7) :: Value.ref (a 8) :: Value.ref (a 9) :: Value.ref (a 10) :: Value.ref (a 11) :: Value.ref (a 12) :: Value.ref (a 13) :: Value.int (q 14) :: Value.long v :: Value.long w :: Value.ref (a 17) :: Value.ref (a 18) :: Value.ref (a 19) :: Value.ref (a 20) :: Value.ref (a 21) :: Value.ref (a 22) :: Value.ref (a 23) :: Value.int (q 24) :: Value.ref (a 25) :: Value.int (q 26) :: Value.ref (a 27) :: Value.int (q 28) :: Value.int (q 29) :: Value.int (q 30) :: Value.int (q 31) :: Value.int (q 32) :: Value.int (q 33) :: Value.ref (a 34) :: Value.ref (a 35) :: Value.ref (a 36) :: Value.ref (a 37) :: Value.ref (a 38) :: Value.ref (a 39) :: Value.ref (a 40) :: Value.int (q 41) :: Value.ref (a 42) :: Value.int (q 43) :: Value.int (q 44) :: [])))] s.heap := hP
  have hl := lv_entry ([.ref h0, .long x1, .long x2]) (n := 7) (Nat.le_of_ble_eq_true rfl)
  rw [lg_entry_eq]
  generalize (lg_sl ([.ref h0, .long x1, .long x2]) ++ List.replicate (7 - (lg_sl ([.ref h0, .long x1, .long x2])).length) Slot.unset).toArray = ls at hl ⊢
  have hl : lv_has ls 7 [(0, .ref h0), (1, .long x1), (3, .long x2)] := hl
  clear hD0
  refine lv_aload_n hx hb dX13_becomes_0 rfl (lv_at hl 0 rfl) ?_
  refine va_get (D := D) (ci := 10) (v := .int (q 14)) (C := RX13) (T := TX13) (N := 45) hx hb hts in_X13_becomes_X13 hown hE.1 hP 0 rfl rfl 14 (by decide +kernel) (hts (.fieldLink RX13 131 "ClauseBookModel" "isMuch" "Z") (List.mem_of_getElem? (i := 1) rfl)) (fun _ h9 => h9) rfl dX13_becomes_1 ?_
  refine lv_if_ne (tgt := 30) hx hb dX13_becomes_4 (by decide +kernel) (fun c_1 => ?_) (fun c_1 => ?_)
  · rw [fa_eq] at c_1
    try rw [ti_0] at c_1
    exact W.vret hx hb hr (fun t ht hW => ⟨⟨(v, w), rfl, ⟨(show ((q 14) : Int32).toInt = 0 ∨ 1 ≤ w.toInt → 1 ≤ w.toInt from (fun h9 => by first | omega | (subst_vars; exact div_pos64 (by omega) (by omega)))), (show ((q 14) : Int32).toInt = 0 → ((v, w) : Int64 × Int64) = redW x1 x2 from (fun h9 => by exfalso; omega))⟩, by rw [ht]; exact hP.sub [0] rfl, hD.sub [0] (by decide +kernel) rfl⟩, hS.F ht⟩) hS.2.2 dX13_becomes_30
  · rw [fa_eq] at c_1
    try rw [ti_0] at c_1
    refine lv_lload_n hx hb dX13_becomes_7 rfl (lv_at hl 1 rfl) ?_
    refine lv_lload_n hx hb dX13_becomes_8 rfl (lv_at hl 2 rfl) ?_
    refine vp_callSl (W.runS (As := [.long x1, .long x2]) (rest := []) ⟨hx, hb, hml, hown, hts⟩ (c_X13_divisor l D T x1 x2 (by omega)) (va_cwS 2 hts gX13_becomes_X13_divisor rfl rfl rfl hs_X13_divisor ⟨Nat.le_of_ble_eq_true rfl, Nat.le_of_ble_eq_true rfl⟩) (pR_S hP hE [] rfl) rfl rfl hl.1 rfl (lv_room (Nat.le_of_ble_eq_true rfl)) dX13_becomes_9 ⟨Nat.le_of_ble_eq_true rfl, Nat.le_of_ble_eq_true rfl⟩) (fun r_2 hr_2 => ?_)
    refine lv_lstore (lv' := [(5, .long r_2), (0, .ref h0), (1, .long x1), (3, .long x2)]) hx hb dX13_becomes_12 hl (by decide +kernel) rfl (fun ls hl => ?_)
    refine lv_aload_n hx hb dX13_becomes_14 rfl (lv_at hl 1 rfl) ?_
    refine lv_lload_n hx hb dX13_becomes_15 rfl (lv_at hl 2 rfl) ?_
    refine lv_lload hx hb dX13_becomes_16 (lv_at hl 0 rfl) ?_
    refine lv_ldiv hx hb dX13_becomes_18 (nz64 (by omega)) ?_
    refine lv_topl (fun z_3 ez_3 => ?_)
    refine va_put (D := D) (ci := 10) (v := .long z_3) (ty := .long) (C := RX13) (T := TX13) (N := 45) hx hb hts in_X13_becomes_X13 tyX13 tyX13_ok nmX13 hown hE.1 hP hD hS 0 rfl rfl 15 (by decide +kernel) (hts (.fieldLink RX13 145 "ClauseBookModel" "above" "J") (List.mem_of_getElem? (i := 2) rfl)) (fun _ h9 => h9) rfl (by decide +kernel) rfl rfl (Nat.le_of_ble_eq_true rfl) dX13_becomes_19 (fun H locs hP hD hS => ?_)
    obtain ⟨hP, hD⟩ := wPD [(h0, .inr (10, (Value.int (q 0) :: Value.int (q 1) :: Value.int (q 2) :: Value.int (q 3) :: Value.int (q 4) :: Value.int (q 5) :: Value.int (q 6) :: Value.int (q 7) :: Value.ref (a 8) :: Value.ref (a 9) :: Value.ref (a 10) :: Value.ref (a 11) :: Value.ref (a 12) :: Value.ref (a 13) :: Value.int (q 14) :: Value.long z_3 :: Value.long w :: Value.ref (a 17) :: Value.ref (a 18) :: Value.ref (a 19) :: Value.ref (a 20) :: Value.ref (a 21) :: Value.ref (a 22) :: Value.ref (a 23) :: Value.int (q 24) :: Value.ref (a 25) :: Value.int (q 26) :: Value.ref (a 27) :: Value.int (q 28) :: Value.int (q 29) :: Value.int (q 30) :: Value.int (q 31) :: Value.int (q 32) :: Value.int (q 33) :: Value.ref (a 34) :: Value.ref (a 35) :: Value.ref (a 36) :: Value.ref (a 37) :: Value.ref (a 38) :: Value.ref (a 39) :: Value.ref (a 40) :: Value.int (q 41) :: Value.ref (a 42) :: Value.int (q 43) :: Value.int (q 44) :: [])))] hP hD rfl
    refine lv_aload_n hx hb dX13_becomes_22 rfl (lv_at hl 1 rfl) ?_
    refine lv_lload_n hx hb dX13_becomes_23 rfl (lv_at hl 3 rfl) ?_
    refine lv_lload hx hb dX13_becomes_24 (lv_at hl 0 rfl) ?_
    refine lv_ldiv hx hb dX13_becomes_26 (nz64 (by omega)) ?_
    refine lv_topl (fun z_4 ez_4 => ?_)
    refine va_put (D := D) (ci := 10) (v := .long z_4) (ty := .long) (C := RX13) (T := TX13) (N := 45) hx hb hts in_X13_becomes_X13 tyX13 tyX13_ok nmX13 hown hE.1 hP hD hS 0 rfl rfl 16 (by decide +kernel) (hts (.fieldLink RX13 149 "ClauseBookModel" "below" "J") (List.mem_of_getElem? (i := 3) rfl)) (fun _ h9 => h9) rfl (by decide +kernel) rfl rfl (Nat.le_of_ble_eq_true rfl) dX13_becomes_27 (fun H locs hP hD hS => ?_)
    obtain ⟨hP, hD⟩ := wPD [(h0, .inr (10, (Value.int (q 0) :: Value.int (q 1) :: Value.int (q 2) :: Value.int (q 3) :: Value.int (q 4) :: Value.int (q 5) :: Value.int (q 6) :: Value.int (q 7) :: Value.ref (a 8) :: Value.ref (a 9) :: Value.ref (a 10) :: Value.ref (a 11) :: Value.ref (a 12) :: Value.ref (a 13) :: Value.int (q 14) :: Value.long z_3 :: Value.long z_4 :: Value.ref (a 17) :: Value.ref (a 18) :: Value.ref (a 19) :: Value.ref (a 20) :: Value.ref (a 21) :: Value.ref (a 22) :: Value.ref (a 23) :: Value.int (q 24) :: Value.ref (a 25) :: Value.int (q 26) :: Value.ref (a 27) :: Value.int (q 28) :: Value.int (q 29) :: Value.int (q 30) :: Value.int (q 31) :: Value.int (q 32) :: Value.int (q 33) :: Value.ref (a 34) :: Value.ref (a 35) :: Value.ref (a 36) :: Value.ref (a 37) :: Value.ref (a 38) :: Value.ref (a 39) :: Value.ref (a 40) :: Value.int (q 41) :: Value.ref (a 42) :: Value.int (q 43) :: Value.int (q 44) :: [])))] hP hD rfl
    exact W.vret hx hb hr (fun t ht hW => ⟨⟨(z_3, z_4), rfl, ⟨(show ((q 14) : Int32).toInt = 0 ∨ 1 ≤ w.toInt → 1 ≤ z_4.toInt from (fun h9 => by first | omega | (subst_vars; exact div_pos64 (by omega) (by omega)))), (show ((q 14) : Int32).toInt = 0 → ((z_3, z_4) : Int64 × Int64) = redW x1 x2 from (fun h9 => by rw [ez_3, ez_4]; exact red_by hr_2.1))⟩, by rw [ht]; exact hP.sub [0] rfl, hD.sub [0] (by decide +kernel) rfl⟩, hS.F ht⟩) hS.2.2 dX13_becomes_30
theorem dX13_multiplies_0 : decode cX13_multiplies 0 = .ok (.aload_n 0, 1) := by decide +kernel
theorem dX13_multiplies_1 : decode cX13_multiplies 1 = .ok (.lload_n 1, 1) := by decide +kernel
theorem dX13_multiplies_10 : decode cX13_multiplies 10 = .ok (.lload_n 3, 1) := by decide +kernel
theorem dX13_multiplies_11 : decode cX13_multiplies 11 = .ok (.lload 7, 2) := by decide +kernel
theorem dX13_multiplies_13 : decode cX13_multiplies 13 = .ok (.invokevirtual 152, 3) := by decide +kernel
theorem dX13_multiplies_16 : decode cX13_multiplies 16 = .ok (.lstore 11, 2) := by decide +kernel
theorem dX13_multiplies_18 : decode cX13_multiplies 18 = .ok (.aload_n 0, 1) := by decide +kernel
theorem dX13_multiplies_19 : decode cX13_multiplies 19 = .ok (.lload 9, 2) := by decide +kernel
theorem dX13_multiplies_2 : decode cX13_multiplies 2 = .ok (.lload 5, 2) := by decide +kernel
theorem dX13_multiplies_21 : decode cX13_multiplies 21 = .ok (.lload 11, 2) := by decide +kernel
theorem dX13_multiplies_23 : decode cX13_multiplies 23 = .ok (.invokevirtual 155, 3) := by decide +kernel
theorem dX13_multiplies_26 : decode cX13_multiplies 26 = .ok (.return_, 1) := by decide +kernel
theorem dX13_multiplies_4 : decode cX13_multiplies 4 = .ok (.invokevirtual 152, 3) := by decide +kernel
theorem dX13_multiplies_7 : decode cX13_multiplies 7 = .ok (.lstore 9, 2) := by decide +kernel
theorem dX13_multiplies_9 : decode cX13_multiplies 9 = .ok (.aload_n 0, 1) := by decide +kernel
set_option maxRecDepth 20000 in
theorem ggX13_multiplies_X13_becomes : GoodIn wsX13_multiplies wsX13_becomes := goodIn_r _ [12, 6, 13, 14, 15, 16, 4, 17, 18, 19, 20, 21, 22, 23, 24, 25, 26, 27, 28, 29, 30, 31, 32, 33, 34, 35, 36, 37, 38, 39, 40, 41, 42, 43, 44, 45, 46, 47, 48, 49, 50, 51, 52, 53, 54, 55, 56, 57, 58, 59, 60, 61, 62] rfl (by decide +kernel)
set_option maxRecDepth 20000 in
theorem ggX13_multiplies_X13_times : GoodIn wsX13_multiplies wsX13_times := goodIn_r _ [5, 6, 7, 8, 18, 19, 20, 21, 22, 23, 24, 25, 26, 27, 28, 29, 30, 31, 32, 33, 34, 35, 36, 37, 38, 39, 40, 41, 42, 43, 44, 45, 46, 47, 48, 49, 50, 51, 52, 53, 54, 55, 56, 57, 58, 59, 60, 61, 62] rfl (by decide +kernel)
set_option maxRecDepth 20000 in
theorem gX13_multiplies_X13_becomes : GoodIn wsX13_multiplies (wsV RX13 155 RX13 yX13_becomes wsX13_becomes) := goodIn_app (goodIn_r _ [9, 10, 11, 4] rfl (by decide +kernel)) ggX13_multiplies_X13_becomes
set_option maxRecDepth 20000 in
theorem gX13_multiplies_X13_times : GoodIn wsX13_multiplies (wsV RX13 152 RX13 yX13_times wsX13_times) := goodIn_app (goodIn_r _ [1, 2, 3, 4] rfl (by decide +kernel)) ggX13_multiplies_X13_times
theorem hv_X13_becomes : yX13_becomes.cls = RX13 ∧ yX13_becomes.cls ≠ "java/lang/invoke/MethodHandle" ∧ yX13_becomes.cls ≠ "java/lang/invoke/VarHandle" ∧ (parseMethodDescriptor yX13_becomes.desc).map (fun d => d.parameters.length) = some 2 := by decide +kernel
theorem hv_X13_times : yX13_times.cls = RX13 ∧ yX13_times.cls ≠ "java/lang/invoke/MethodHandle" ∧ yX13_times.cls ≠ "java/lang/invoke/VarHandle" ∧ (parseMethodDescriptor yX13_times.desc).map (fun d => d.parameters.length) = some 2 := by decide +kernel
set_option maxHeartbeats 4000000 in
set_option maxRecDepth 100000 in
theorem c_X13_multiplies (l : Launch) (D : va_G) (T : Nat → ClassId) (sz : Nat) (h0 : Nat) (q : Nat → Int32) (v : Int64) (w : Int64) (a : Nat → Nat) (x1 : Int64) (x2 : Int64) (x3 : Int64) (x4 : Int64) (hB : isB (q 14)) (hx2 : 1 ≤ x2.toInt) (hx4 : 1 ≤ x4.toInt) (hw : 1 ≤ w.toInt) : Met l yX13_multiplies wsX13_multiplies ({ frames := 2, cells := 0, slots := 0, locals := 55 }) (pW [.ref h0, .long x1, .long x2, .long x3, .long x4] D T [(h0, .inr (10, (Value.int (q 0) :: Value.int (q 1) :: Value.int (q 2) :: Value.int (q 3) :: Value.int (q 4) :: Value.int (q 5) :: Value.int (q 6) :: Value.int (q 7) :: Value.ref (a 8) :: Value.ref (a 9) :: Value.ref (a 10) :: Value.ref (a 11) :: Value.ref (a 12) :: Value.ref (a 13) :: Value.int (q 14) :: Value.long v :: Value.long w :: Value.ref (a 17) :: Value.ref (a 18) :: Value.ref (a 19) :: Value.ref (a 20) :: Value.ref (a 21) :: Value.ref (a 22) :: Value.ref (a 23) :: Value.int (q 24) :: Value.ref (a 25) :: Value.int (q 26) :: Value.ref (a 27) :: Value.int (q 28) :: Value.int (q 29) :: Value.int (q 30) :: Value.int (q 31) :: Value.int (q 32) :: Value.int (q 33) :: Value.ref (a 34) :: Value.ref (a 35) :: Value.ref (a 36) :: Value.ref (a 37) :: Value.ref (a 38) :: Value.ref (a 39) :: Value.ref (a 40) :: Value.int (q 41) :: Value.ref (a 42) :: Value.int (q 43) :: Value.int (q 44) :: [])))] sz) (va_Qv (fun (u : (Int32) × (Int64) × (Int64)) => (isB u.1) ∧ (1 ≤ u.2.2.toInt) ∧ ((u.1 : Int32).toInt = 0 ↔ (((q 14) : Int32).toInt = 0 ∧ fitM x1 x3 ∧ fitM x2 x4)) ∧ ((u.1 : Int32).toInt = 0 → ((u.2.1, u.2.2) : Int64 × Int64) = redW (x1 * x3) (x2 * x4))) (bW D (va_A [(h0, .inr (10, (Value.int (q 0) :: Value.int (q 1) :: Value.int (q 2) :: Value.int (q 3) :: Value.int (q 4) :: Value.int (q 5) :: Value.int (q 6) :: Value.int (q 7) :: Value.ref (a 8) :: Value.ref (a 9) :: Value.ref (a 10) :: Value.ref (a 11) :: Value.ref (a 12) :: Value.ref (a 13) :: Value.int (q 14) :: Value.long v :: Value.long w :: Value.ref (a 17) :: Value.ref (a 18) :: Value.ref (a 19) :: Value.ref (a 20) :: Value.ref (a 21) :: Value.ref (a 22) :: Value.ref (a 23) :: Value.int (q 24) :: Value.ref (a 25) :: Value.int (q 26) :: Value.ref (a 27) :: Value.int (q 28) :: Value.int (q 29) :: Value.int (q 30) :: Value.int (q 31) :: Value.int (q 32) :: Value.int (q 33) :: Value.ref (a 34) :: Value.ref (a 35) :: Value.ref (a 36) :: Value.ref (a 37) :: Value.ref (a 38) :: Value.ref (a 39) :: Value.ref (a 40) :: Value.int (q 41) :: Value.ref (a 42) :: Value.int (q 43) :: Value.int (q 44) :: [])))] sz) (fun (u : (Int32) × (Int64) × (Int64)) => [(h0, .inr (10, (Value.int (q 0) :: Value.int (q 1) :: Value.int (q 2) :: Value.int (q 3) :: Value.int (q 4) :: Value.int (q 5) :: Value.int (q 6) :: Value.int (q 7) :: Value.ref (a 8) :: Value.ref (a 9) :: Value.ref (a 10) :: Value.ref (a 11) :: Value.ref (a 12) :: Value.ref (a 13) :: Value.int u.1 :: Value.long u.2.1 :: Value.long u.2.2 :: Value.ref (a 17) :: Value.ref (a 18) :: Value.ref (a 19) :: Value.ref (a 20) :: Value.ref (a 21) :: Value.ref (a 22) :: Value.ref (a 23) :: Value.int (q 24) :: Value.ref (a 25) :: Value.int (q 26) :: Value.ref (a 27) :: Value.int (q 28) :: Value.int (q 29) :: Value.int (q 30) :: Value.int (q 31) :: Value.int (q 32) :: Value.int (q 33) :: Value.ref (a 34) :: Value.ref (a 35) :: Value.ref (a 36) :: Value.ref (a 37) :: Value.ref (a 38) :: Value.ref (a 39) :: Value.ref (a 40) :: Value.int (q 41) :: Value.ref (a 42) :: Value.int (q 43) :: Value.int (q 44) :: [])))])) (va_A [(h0, .inr (10, (Value.int (q 0) :: Value.int (q 1) :: Value.int (q 2) :: Value.int (q 3) :: Value.int (q 4) :: Value.int (q 5) :: Value.int (q 6) :: Value.int (q 7) :: Value.ref (a 8) :: Value.ref (a 9) :: Value.ref (a 10) :: Value.ref (a 11) :: Value.ref (a 12) :: Value.ref (a 13) :: Value.int (q 14) :: Value.long v :: Value.long w :: Value.ref (a 17) :: Value.ref (a 18) :: Value.ref (a 19) :: Value.ref (a 20) :: Value.ref (a 21) :: Value.ref (a 22) :: Value.ref (a 23) :: Value.int (q 24) :: Value.ref (a 25) :: Value.int (q 26) :: Value.ref (a 27) :: Value.int (q 28) :: Value.int (q 29) :: Value.int (q 30) :: Value.int (q 31) :: Value.int (q 32) :: Value.int (q 33) :: Value.ref (a 34) :: Value.ref (a 35) :: Value.ref (a 36) :: Value.ref (a 37) :: Value.ref (a 38) :: Value.ref (a 39) :: Value.ref (a 40) :: Value.int (q 41) :: Value.ref (a 42) :: Value.int (q 43) :: Value.int (q 44) :: [])))] sz)) 0 0 (va_A [(h0, .inr (10, (Value.int (q 0) :: Value.int (q 1) :: Value.int (q 2) :: Value.int (q 3) :: Value.int (q 4) :: Value.int (q 5) :: Value.int (q 6) :: Value.int (q 7) :: Value.ref (a 8) :: Value.ref (a 9) :: Value.ref (a 10) :: Value.ref (a 11) :: Value.ref (a 12) :: Value.ref (a 13) :: Value.int (q 14) :: Value.long v :: Value.long w :: Value.ref (a 17) :: Value.ref (a 18) :: Value.ref (a 19) :: Value.ref (a 20) :: Value.ref (a 21) :: Value.ref (a 22) :: Value.ref (a 23) :: Value.int (q 24) :: Value.ref (a 25) :: Value.int (q 26) :: Value.ref (a 27) :: Value.int (q 28) :: Value.int (q 29) :: Value.int (q 30) :: Value.int (q 31) :: Value.int (q 32) :: Value.int (q 33) :: Value.ref (a 34) :: Value.ref (a 35) :: Value.ref (a 36) :: Value.ref (a 37) :: Value.ref (a 38) :: Value.ref (a 39) :: Value.ref (a 40) :: Value.int (q 41) :: Value.ref (a 42) :: Value.int (q 43) :: Value.int (q 44) :: [])))] sz) := by
  refine Met.ofW (cc := cX13_multiplies) (maxL := 13) (ret := none) (by decide +kernel) rfl ?_
  intro p e s m args below meth c s₁ B hml hv
  obtain ⟨rfl, hsz, hP, hE, hD0⟩ := hv
  have hx := B.exec
  have hb := B.bytes
  have hr := B.returns
  have hts := atoms_spec (ws := wsX13_multiplies) B.pre
  have hown : s.vm.findClass RX13 = some m.cls := findClass_of_methodNamed B.named
  have hlocks := B.notSynchronized
  subst hsz
  have hD := hD0.self (sz := s.heap.size)
  generalize hAe : va_A [(h0, .inr (10, (Value.int (q 0) :: Value.int (q 1) :: Value.int (q 2) :: Value.int (q 3) :: Value.int (q 4) :: Value.int (q 5) :: Value.int (q 6) :: Value.int (q 7) :: Value.ref (a 8) :: Value.ref (a 9) :: Value.ref (a 10) :: Value.ref (a 11) :: Value.ref (a 12) :: Value.ref (a 13) :: Value.int (q 14) :: Value.long v :: Value.long w :: Value.ref (a 17) :: Value.ref (a 18) :: Value.ref (a 19) :: Value.ref (a 20) :: Value.ref (a 21) :: Value.ref (a 22) :: Value.ref (a 23) :: Value.int (q 24) :: Value.ref (a 25) :: Value.int (q 26) :: Value.ref (a 27) :: Value.int (q 28) :: Value.int (q 29) :: Value.int (q 30) :: Value.int (q 31) :: Value.int (q 32) :: Value.int (q 33) :: Value.ref (a 34) :: Value.ref (a 35) :: Value.ref (a 36) :: Value.ref (a 37) :: Value.ref (a 38) :: Value.ref (a 39) :: Value.ref (a 40) :: Value.int (q 41) :: Value.ref (a 42) :: Value.int (q 43) :: Value.int (q 44) :: [])))] s.heap.size = A at hD ⊢
  have hA : ∀ q : Nat, s.heap.size ≤ q → A q := fun q h => by rw [← hAe]; exact Or.inr h
  have hS : va_S A s.heap s.heap [] := va_S.rf
  have hP : va_P D vwCl [(h0, .inr (10, (Value.int (q 0) :: Value.int (q 1) :: Value.int (q 2) :: Value.int (q 3) :: Value.int (q 4) :: Value.int (q 5) :: Value.int (q 6) :: Value.int (q 7) :: Value.ref (a 8) :: Value.ref (a 9) :: Value.ref (a 10) :: Value.ref (a 11) :: Value.ref (a 12) :: Value.ref (a 13) :: Value.int (q 14) :: Value.long v :: Value.long w :: Value.ref (a 17) :: Value.ref (a 18) :: Value.ref (a 19) :: Value.ref (a 20) :: Value.ref (a 21) :: Value.ref (a 22) :: Value.ref (a 23) :: Value.int (q 24) :: Value.ref (a 25) :: Value.int (q 26) :: Value.ref (a 27) :: Value.int (q 28) :: Value.int (q 29) :: Value.int (q 30) :: Value.int (q 31) :: Value.int (q 32) :: Value.int (q 33) :: Value.ref (a 34) :: Value.ref (a 35) :: Value.ref (a 36) :: Value.ref (a 37) :: Value.ref (a 38) :: Value.ref (a 39) :: Value.ref (a 40) :: Value.int (q 41) :: Value.ref (a 42) :: Value.int (q 43) :: Value.int (q 44) :: [])))] s.heap := hP
  have hl := lv_entry ([.ref h0, .long x1, .long x2, .long x3, .long x4]) (n := 13) (Nat.le_of_ble_eq_true rfl)
  rw [lg_entry_eq]
  generalize (lg_sl ([.ref h0, .long x1, .long x2, .long x3, .long x4]) ++ List.replicate (13 - (lg_sl ([.ref h0, .long x1, .long x2, .long x3, .long x4])).length) Slot.unset).toArray = ls at hl ⊢
  have hl : lv_has ls 13 [(0, .ref h0), (1, .long x1), (3, .long x2), (5, .long x3), (7, .long x4)] := hl
  clear hD0
  refine lv_aload_n hx hb dX13_multiplies_0 rfl (lv_at hl 0 rfl) ?_
  refine lv_lload_n hx hb dX13_multiplies_1 rfl (lv_at hl 1 rfl) ?_
  refine lv_lload hx hb dX13_multiplies_2 (lv_at hl 3 rfl) ?_
  have hFc := va_free (wc := [(h0, .inr (10, (Value.int (q 0) :: Value.int (q 1) :: Value.int (q 2) :: Value.int (q 3) :: Value.int (q 4) :: Value.int (q 5) :: Value.int (q 6) :: Value.int (q 7) :: Value.ref (a 8) :: Value.ref (a 9) :: Value.ref (a 10) :: Value.ref (a 11) :: Value.ref (a 12) :: Value.ref (a 13) :: Value.int (q 14) :: Value.long v :: Value.long w :: Value.ref (a 17) :: Value.ref (a 18) :: Value.ref (a 19) :: Value.ref (a 20) :: Value.ref (a 21) :: Value.ref (a 22) :: Value.ref (a 23) :: Value.int (q 24) :: Value.ref (a 25) :: Value.int (q 26) :: Value.ref (a 27) :: Value.int (q 28) :: Value.int (q 29) :: Value.int (q 30) :: Value.int (q 31) :: Value.int (q 32) :: Value.int (q 33) :: Value.ref (a 34) :: Value.ref (a 35) :: Value.ref (a 36) :: Value.ref (a 37) :: Value.ref (a 38) :: Value.ref (a 39) :: Value.ref (a 40) :: Value.int (q 41) :: Value.ref (a 42) :: Value.int (q 43) :: Value.int (q 44) :: [])))]) hD hS hA [0] rfl
  refine va_calll (va_runV (As := [.long x1, .long x3]) (rest := []) ⟨hx, hb, hml, hown, hts⟩ (c_X13_times l D T _ h0 q v w a x1 x3 (show isB (q 14) from hB)) (cwV 2 hts gX13_multiplies_X13_times rfl rfl rfl hv_X13_times ⟨Nat.le_of_ble_eq_true rfl, Nat.le_of_ble_eq_true rfl⟩) (pW_V (q := (RX13, TX13, 45)) (ci := 10) (q0 := 0) hP hE hD rfl rfl [0] (by decide +kernel) rfl rfl) rfl rfl hl.1 rfl (lv_room (Nat.le_of_ble_eq_true rfl)) dX13_multiplies_4 ⟨Nat.le_of_ble_eq_true rfl, Nat.le_of_ble_eq_true rfl⟩) hS (fun q _ h => hFc q h) hFc (fun r_1 u_2 t H1 locs ht hvm hr_1 hB hz1 hk1 hS => ?_)
  obtain ⟨hi0_r_1, hi1_r_1, hi2_r_1⟩ := hr_1
  have hB14_r_1 : isB u_2 := hi0_r_1
  have hj1_r_1 : (u_2 : Int32).toInt = 0 ↔ (((q 14) : Int32).toInt = 0 ∧ fitM x1 x3) := hi1_r_1
  have hj2_r_1 : r_1 = x1 * x3 := hi2_r_1
  obtain ⟨hP1, hD1⟩ := hB
  rw [ht] at hP1
  obtain ⟨hP, hD⟩ := va_repl [(h0, .inr (10, (Value.int (q 0) :: Value.int (q 1) :: Value.int (q 2) :: Value.int (q 3) :: Value.int (q 4) :: Value.int (q 5) :: Value.int (q 6) :: Value.int (q 7) :: Value.ref (a 8) :: Value.ref (a 9) :: Value.ref (a 10) :: Value.ref (a 11) :: Value.ref (a 12) :: Value.ref (a 13) :: Value.int u_2 :: Value.long v :: Value.long w :: Value.ref (a 17) :: Value.ref (a 18) :: Value.ref (a 19) :: Value.ref (a 20) :: Value.ref (a 21) :: Value.ref (a 22) :: Value.ref (a 23) :: Value.int (q 24) :: Value.ref (a 25) :: Value.int (q 26) :: Value.ref (a 27) :: Value.int (q 28) :: Value.int (q 29) :: Value.int (q 30) :: Value.int (q 31) :: Value.int (q 32) :: Value.int (q 33) :: Value.ref (a 34) :: Value.ref (a 35) :: Value.ref (a 36) :: Value.ref (a 37) :: Value.ref (a 38) :: Value.ref (a 39) :: Value.ref (a 40) :: Value.int (q 41) :: Value.ref (a 42) :: Value.int (q 43) :: Value.int (q 44) :: [])))] hP hD [0] [0] rfl (by decide +kernel) rfl rfl rfl hk1 hP1
  clear hP1 hD1 hFc
  generalize H1 = H at hP hS ⊢
  refine lv_lstore (lv' := [(9, .long r_1), (0, .ref h0), (1, .long x1), (3, .long x2), (5, .long x3), (7, .long x4)]) hx hb dX13_multiplies_7 hl (by decide +kernel) rfl (fun ls hl => ?_)
  refine lv_aload_n hx hb dX13_multiplies_9 rfl (lv_at hl 1 rfl) ?_
  refine lv_lload_n hx hb dX13_multiplies_10 rfl (lv_at hl 3 rfl) ?_
  refine lv_lload hx hb dX13_multiplies_11 (lv_at hl 5 rfl) ?_
  have hFc := va_free (wc := [(h0, .inr (10, (Value.int (q 0) :: Value.int (q 1) :: Value.int (q 2) :: Value.int (q 3) :: Value.int (q 4) :: Value.int (q 5) :: Value.int (q 6) :: Value.int (q 7) :: Value.ref (a 8) :: Value.ref (a 9) :: Value.ref (a 10) :: Value.ref (a 11) :: Value.ref (a 12) :: Value.ref (a 13) :: Value.int u_2 :: Value.long v :: Value.long w :: Value.ref (a 17) :: Value.ref (a 18) :: Value.ref (a 19) :: Value.ref (a 20) :: Value.ref (a 21) :: Value.ref (a 22) :: Value.ref (a 23) :: Value.int (q 24) :: Value.ref (a 25) :: Value.int (q 26) :: Value.ref (a 27) :: Value.int (q 28) :: Value.int (q 29) :: Value.int (q 30) :: Value.int (q 31) :: Value.int (q 32) :: Value.int (q 33) :: Value.ref (a 34) :: Value.ref (a 35) :: Value.ref (a 36) :: Value.ref (a 37) :: Value.ref (a 38) :: Value.ref (a 39) :: Value.ref (a 40) :: Value.int (q 41) :: Value.ref (a 42) :: Value.int (q 43) :: Value.int (q 44) :: [])))]) hD hS hA [0] rfl
  refine va_calll (va_runV (As := [.long x2, .long x4]) (rest := []) ⟨hx, hb, hml, hown, hts⟩ (c_X13_times l D T _ h0 (fun k => cond (Nat.beq k 14) u_2 (q k)) v w a x2 x4 (show isB u_2 from hB14_r_1)) (cwV 2 hts gX13_multiplies_X13_times rfl rfl rfl hv_X13_times ⟨Nat.le_of_ble_eq_true rfl, Nat.le_of_ble_eq_true rfl⟩) (pW_V (q := (RX13, TX13, 45)) (ci := 10) (q0 := 0) hP hE hD rfl rfl [0] (by decide +kernel) rfl rfl) rfl rfl hl.1 rfl (lv_room (Nat.le_of_ble_eq_true rfl)) dX13_multiplies_13 ⟨Nat.le_of_ble_eq_true rfl, Nat.le_of_ble_eq_true rfl⟩) hS (fun q _ h => hFc q h) hFc (fun r_3 u_4 t H1 locs ht hvm hr_3 hB hz1 hk1 hS => ?_)
  obtain ⟨hi0_r_3, hi1_r_3, hi2_r_3⟩ := hr_3
  have hB14_r_3 : isB u_4 := hi0_r_3
  have hj1_r_3 : (u_4 : Int32).toInt = 0 ↔ ((u_2 : Int32).toInt = 0 ∧ fitM x2 x4) := hi1_r_3
  have hj2_r_3 : r_3 = x2 * x4 := hi2_r_3
  obtain ⟨hP1, hD1⟩ := hB
  rw [ht] at hP1
  obtain ⟨hP, hD⟩ := va_repl [(h0, .inr (10, (Value.int (q 0) :: Value.int (q 1) :: Value.int (q 2) :: Value.int (q 3) :: Value.int (q 4) :: Value.int (q 5) :: Value.int (q 6) :: Value.int (q 7) :: Value.ref (a 8) :: Value.ref (a 9) :: Value.ref (a 10) :: Value.ref (a 11) :: Value.ref (a 12) :: Value.ref (a 13) :: Value.int u_4 :: Value.long v :: Value.long w :: Value.ref (a 17) :: Value.ref (a 18) :: Value.ref (a 19) :: Value.ref (a 20) :: Value.ref (a 21) :: Value.ref (a 22) :: Value.ref (a 23) :: Value.int (q 24) :: Value.ref (a 25) :: Value.int (q 26) :: Value.ref (a 27) :: Value.int (q 28) :: Value.int (q 29) :: Value.int (q 30) :: Value.int (q 31) :: Value.int (q 32) :: Value.int (q 33) :: Value.ref (a 34) :: Value.ref (a 35) :: Value.ref (a 36) :: Value.ref (a 37) :: Value.ref (a 38) :: Value.ref (a 39) :: Value.ref (a 40) :: Value.int (q 41) :: Value.ref (a 42) :: Value.int (q 43) :: Value.int (q 44) :: [])))] hP hD [0] [0] rfl (by decide +kernel) rfl rfl rfl hk1 hP1
  clear hP1 hD1 hFc
  generalize H1 = H at hP hS ⊢
  refine lv_lstore (lv' := [(11, .long r_3), (9, .long r_1), (0, .ref h0), (1, .long x1), (3, .long x2), (5, .long x3), (7, .long x4)]) hx hb dX13_multiplies_16 hl (by decide +kernel) rfl (fun ls hl => ?_)
  refine lv_aload_n hx hb dX13_multiplies_18 rfl (lv_at hl 2 rfl) ?_
  refine lv_lload hx hb dX13_multiplies_19 (lv_at hl 1 rfl) ?_
  refine lv_lload hx hb dX13_multiplies_21 (lv_at hl 0 rfl) ?_
  have hFc := va_free (wc := [(h0, .inr (10, (Value.int (q 0) :: Value.int (q 1) :: Value.int (q 2) :: Value.int (q 3) :: Value.int (q 4) :: Value.int (q 5) :: Value.int (q 6) :: Value.int (q 7) :: Value.ref (a 8) :: Value.ref (a 9) :: Value.ref (a 10) :: Value.ref (a 11) :: Value.ref (a 12) :: Value.ref (a 13) :: Value.int u_4 :: Value.long v :: Value.long w :: Value.ref (a 17) :: Value.ref (a 18) :: Value.ref (a 19) :: Value.ref (a 20) :: Value.ref (a 21) :: Value.ref (a 22) :: Value.ref (a 23) :: Value.int (q 24) :: Value.ref (a 25) :: Value.int (q 26) :: Value.ref (a 27) :: Value.int (q 28) :: Value.int (q 29) :: Value.int (q 30) :: Value.int (q 31) :: Value.int (q 32) :: Value.int (q 33) :: Value.ref (a 34) :: Value.ref (a 35) :: Value.ref (a 36) :: Value.ref (a 37) :: Value.ref (a 38) :: Value.ref (a 39) :: Value.ref (a 40) :: Value.int (q 41) :: Value.ref (a 42) :: Value.int (q 43) :: Value.int (q 44) :: [])))]) hD hS hA [0] rfl
  refine va_callv (va_runV (As := [.long r_1, .long r_3]) (rest := []) ⟨hx, hb, hml, hown, hts⟩ (c_X13_becomes l D T _ h0 (fun k => cond (Nat.beq k 14) u_4 (q k)) v w a r_1 r_3 (show (u_4 : Int32).toInt = 0 → 1 ≤ r_3.toInt from (fun h9 => den_pos hx2 hx4 (hj1_r_3.1 h9).2 hj2_r_3))) (cwV 2 hts gX13_multiplies_X13_becomes rfl rfl rfl hv_X13_becomes ⟨Nat.le_of_ble_eq_true rfl, Nat.le_of_ble_eq_true rfl⟩) (pW_V (q := (RX13, TX13, 45)) (ci := 10) (q0 := 0) hP hE hD rfl rfl [0] (by decide +kernel) rfl rfl) rfl rfl hl.1 rfl (lv_room (Nat.le_of_ble_eq_true rfl)) dX13_multiplies_23 ⟨Nat.le_of_ble_eq_true rfl, Nat.le_of_ble_eq_true rfl⟩) hS (fun q _ h => hFc q h) hFc (fun u_6 t H1 locs ht hvm hr_5 hB hz1 hk1 hS => ?_)
  obtain ⟨l_7, l_8⟩ := u_6
  obtain ⟨hi0_r_5, hi1_r_5⟩ := hr_5
  have hj0_r_5 : (u_4 : Int32).toInt = 0 ∨ 1 ≤ w.toInt → 1 ≤ l_8.toInt := hi0_r_5
  have hj1_r_5 : (u_4 : Int32).toInt = 0 → ((l_7, l_8) : Int64 × Int64) = redW r_1 r_3 := hi1_r_5
  obtain ⟨hP1, hD1⟩ := hB
  rw [ht] at hP1
  obtain ⟨hP, hD⟩ := va_repl [(h0, .inr (10, (Value.int (q 0) :: Value.int (q 1) :: Value.int (q 2) :: Value.int (q 3) :: Value.int (q 4) :: Value.int (q 5) :: Value.int (q 6) :: Value.int (q 7) :: Value.ref (a 8) :: Value.ref (a 9) :: Value.ref (a 10) :: Value.ref (a 11) :: Value.ref (a 12) :: Value.ref (a 13) :: Value.int u_4 :: Value.long l_7 :: Value.long l_8 :: Value.ref (a 17) :: Value.ref (a 18) :: Value.ref (a 19) :: Value.ref (a 20) :: Value.ref (a 21) :: Value.ref (a 22) :: Value.ref (a 23) :: Value.int (q 24) :: Value.ref (a 25) :: Value.int (q 26) :: Value.ref (a 27) :: Value.int (q 28) :: Value.int (q 29) :: Value.int (q 30) :: Value.int (q 31) :: Value.int (q 32) :: Value.int (q 33) :: Value.ref (a 34) :: Value.ref (a 35) :: Value.ref (a 36) :: Value.ref (a 37) :: Value.ref (a 38) :: Value.ref (a 39) :: Value.ref (a 40) :: Value.int (q 41) :: Value.ref (a 42) :: Value.int (q 43) :: Value.int (q 44) :: [])))] hP hD [0] [0] rfl (by decide +kernel) rfl rfl rfl hk1 hP1
  clear hP1 hD1 hFc
  generalize H1 = H at hP hS ⊢
  exact W.vret hx hb hr (fun t ht hW => ⟨⟨(u_4, l_7, l_8), rfl, ⟨(show isB u_4 from hB14_r_3), (show 1 ≤ l_8.toInt from (by first | omega | (subst_vars; omega))), (show (u_4 : Int32).toInt = 0 ↔ (((q 14) : Int32).toInt = 0 ∧ fitM x1 x3 ∧ fitM x2 x4) from ⟨(fun h9 => by have h8 := hj1_r_3.1 h9; have h7 := hj1_r_1.1 h8.1; exact ⟨h7.1, h7.2, h8.2⟩), (fun h9 => hj1_r_3.2 ⟨hj1_r_1.2 ⟨h9.1, h9.2.1⟩, h9.2.2⟩)⟩), (show (u_4 : Int32).toInt = 0 → ((l_7, l_8) : Int64 × Int64) = redW (x1 * x3) (x2 * x4) from (fun h9 => by rw [← hj2_r_1, ← hj2_r_3]; exact hj1_r_5 h9))⟩, by rw [ht]; exact hP.sub [0] rfl, hD.sub [0] (by decide +kernel) rfl⟩, hS.F ht⟩) hS.2.2 dX13_multiplies_26
theorem dX13_adds_0 : decode cX13_adds 0 = .ok (.aload_n 0, 1) := by decide +kernel
theorem dX13_adds_1 : decode cX13_adds 1 = .ok (.lload_n 1, 1) := by decide +kernel
theorem dX13_adds_10 : decode cX13_adds 10 = .ok (.lload 5, 2) := by decide +kernel
theorem dX13_adds_12 : decode cX13_adds 12 = .ok (.lload_n 3, 1) := by decide +kernel
theorem dX13_adds_13 : decode cX13_adds 13 = .ok (.invokevirtual 152, 3) := by decide +kernel
theorem dX13_adds_16 : decode cX13_adds 16 = .ok (.lstore 11, 2) := by decide +kernel
theorem dX13_adds_18 : decode cX13_adds 18 = .ok (.aload_n 0, 1) := by decide +kernel
theorem dX13_adds_19 : decode cX13_adds 19 = .ok (.lload_n 3, 1) := by decide +kernel
theorem dX13_adds_2 : decode cX13_adds 2 = .ok (.lload 7, 2) := by decide +kernel
theorem dX13_adds_20 : decode cX13_adds 20 = .ok (.lload 7, 2) := by decide +kernel
theorem dX13_adds_22 : decode cX13_adds 22 = .ok (.invokevirtual 152, 3) := by decide +kernel
theorem dX13_adds_25 : decode cX13_adds 25 = .ok (.lstore 13, 2) := by decide +kernel
theorem dX13_adds_27 : decode cX13_adds 27 = .ok (.aload_n 0, 1) := by decide +kernel
theorem dX13_adds_28 : decode cX13_adds 28 = .ok (.getfield 131, 3) := by decide +kernel
theorem dX13_adds_31 : decode cX13_adds 31 = .ok (.ifCond .eq 7, 3) := by decide +kernel
theorem dX13_adds_34 : decode cX13_adds 34 = .ok (.lconst 0, 1) := by decide +kernel
theorem dX13_adds_35 : decode cX13_adds 35 = .ok (.goto 11, 3) := by decide +kernel
theorem dX13_adds_38 : decode cX13_adds 38 = .ok (.aload_n 0, 1) := by decide +kernel
theorem dX13_adds_39 : decode cX13_adds 39 = .ok (.lload 9, 2) := by decide +kernel
theorem dX13_adds_4 : decode cX13_adds 4 = .ok (.invokevirtual 152, 3) := by decide +kernel
theorem dX13_adds_41 : decode cX13_adds 41 = .ok (.lload 11, 2) := by decide +kernel
theorem dX13_adds_43 : decode cX13_adds 43 = .ok (.invokevirtual 159, 3) := by decide +kernel
theorem dX13_adds_46 : decode cX13_adds 46 = .ok (.lstore 15, 2) := by decide +kernel
theorem dX13_adds_48 : decode cX13_adds 48 = .ok (.aload_n 0, 1) := by decide +kernel
theorem dX13_adds_49 : decode cX13_adds 49 = .ok (.lload 15, 2) := by decide +kernel
theorem dX13_adds_51 : decode cX13_adds 51 = .ok (.lload 13, 2) := by decide +kernel
theorem dX13_adds_53 : decode cX13_adds 53 = .ok (.invokevirtual 155, 3) := by decide +kernel
theorem dX13_adds_56 : decode cX13_adds 56 = .ok (.return_, 1) := by decide +kernel
theorem dX13_adds_7 : decode cX13_adds 7 = .ok (.lstore 9, 2) := by decide +kernel
theorem dX13_adds_9 : decode cX13_adds 9 = .ok (.aload_n 0, 1) := by decide +kernel
set_option maxRecDepth 20000 in
theorem ggX13_adds_X13_becomes : GoodIn wsX13_adds wsX13_becomes := goodIn_r _ [16, 1, 17, 18, 19, 20, 5, 21, 22, 23, 24, 25, 26, 27, 28, 29, 30, 31, 32, 33, 34, 35, 36, 37, 38, 39, 40, 41, 42, 43, 44, 45, 46, 47, 48, 49, 50, 51, 52, 53, 54, 55, 56, 57, 58, 59, 60, 61, 62, 63, 64, 65, 66] rfl (by decide +kernel)
set_option maxRecDepth 20000 in
theorem ggX13_adds_X13_plus : GoodIn wsX13_adds wsX13_plus := goodIn_r _ [12, 1, 22, 23, 24, 25, 26, 27, 28, 29, 30, 31, 32, 33, 34, 35, 36, 37, 38, 39, 40, 41, 42, 43, 44, 45, 46, 47, 48, 49, 50, 51, 52, 53, 54, 55, 56, 57, 58, 59, 60, 61, 62, 63, 64, 65, 66] rfl (by decide +kernel)
set_option maxRecDepth 20000 in
theorem ggX13_adds_X13_times : GoodIn wsX13_adds wsX13_times := goodIn_r _ [6, 1, 7, 8, 22, 23, 24, 25, 26, 27, 28, 29, 30, 31, 32, 33, 34, 35, 36, 37, 38, 39, 40, 41, 42, 43, 44, 45, 46, 47, 48, 49, 50, 51, 52, 53, 54, 55, 56, 57, 58, 59, 60, 61, 62, 63, 64, 65, 66] rfl (by decide +kernel)
set_option maxRecDepth 20000 in
theorem gX13_adds_X13_becomes : GoodIn wsX13_adds (wsV RX13 155 RX13 yX13_becomes wsX13_becomes) := goodIn_app (goodIn_r _ [13, 14, 15, 5] rfl (by decide +kernel)) ggX13_adds_X13_becomes
set_option maxRecDepth 20000 in
theorem gX13_adds_X13_plus : GoodIn wsX13_adds (wsV RX13 159 RX13 yX13_plus wsX13_plus) := goodIn_app (goodIn_r _ [9, 10, 11, 5] rfl (by decide +kernel)) ggX13_adds_X13_plus
set_option maxRecDepth 20000 in
theorem gX13_adds_X13_times : GoodIn wsX13_adds (wsV RX13 152 RX13 yX13_times wsX13_times) := goodIn_app (goodIn_r _ [2, 3, 4, 5] rfl (by decide +kernel)) ggX13_adds_X13_times
theorem hv_X13_plus : yX13_plus.cls = RX13 ∧ yX13_plus.cls ≠ "java/lang/invoke/MethodHandle" ∧ yX13_plus.cls ≠ "java/lang/invoke/VarHandle" ∧ (parseMethodDescriptor yX13_plus.desc).map (fun d => d.parameters.length) = some 2 := by decide +kernel
set_option maxRecDepth 20000 in
theorem in_X13_adds_X13 : ∀ w ∈ wsX130, w ∈ wsX13_adds := sub_r [22, 23, 24, 25, 26, 27, 28, 29, 30, 31, 32, 33, 34, 35, 36, 37, 38, 39, 40, 41, 42, 43, 44, 45, 46, 47, 48, 49, 50, 51, 52, 53, 54, 55, 56, 57, 58, 59, 60, 61, 62, 63, 64, 65, 66] rfl
set_option maxHeartbeats 4000000 in
set_option maxRecDepth 100000 in
theorem c_X13_adds (l : Launch) (D : va_G) (T : Nat → ClassId) (sz : Nat) (h0 : Nat) (q : Nat → Int32) (v : Int64) (w : Int64) (a : Nat → Nat) (x1 : Int64) (x2 : Int64) (x3 : Int64) (x4 : Int64) (hB : isB (q 14)) (hx2 : 1 ≤ x2.toInt) (hx4 : 1 ≤ x4.toInt) (hw : 1 ≤ w.toInt) : Met l yX13_adds wsX13_adds ({ frames := 2, cells := 0, slots := 0, locals := 55 }) (pW [.ref h0, .long x1, .long x2, .long x3, .long x4] D T [(h0, .inr (10, (Value.int (q 0) :: Value.int (q 1) :: Value.int (q 2) :: Value.int (q 3) :: Value.int (q 4) :: Value.int (q 5) :: Value.int (q 6) :: Value.int (q 7) :: Value.ref (a 8) :: Value.ref (a 9) :: Value.ref (a 10) :: Value.ref (a 11) :: Value.ref (a 12) :: Value.ref (a 13) :: Value.int (q 14) :: Value.long v :: Value.long w :: Value.ref (a 17) :: Value.ref (a 18) :: Value.ref (a 19) :: Value.ref (a 20) :: Value.ref (a 21) :: Value.ref (a 22) :: Value.ref (a 23) :: Value.int (q 24) :: Value.ref (a 25) :: Value.int (q 26) :: Value.ref (a 27) :: Value.int (q 28) :: Value.int (q 29) :: Value.int (q 30) :: Value.int (q 31) :: Value.int (q 32) :: Value.int (q 33) :: Value.ref (a 34) :: Value.ref (a 35) :: Value.ref (a 36) :: Value.ref (a 37) :: Value.ref (a 38) :: Value.ref (a 39) :: Value.ref (a 40) :: Value.int (q 41) :: Value.ref (a 42) :: Value.int (q 43) :: Value.int (q 44) :: [])))] sz) (va_Qv (fun (u : (Int32) × (Int64) × (Int64)) => (isB u.1) ∧ (1 ≤ u.2.2.toInt) ∧ ((u.1 : Int32).toInt = 0 ↔ (((q 14) : Int32).toInt = 0 ∧ fitM x1 x4 ∧ fitM x3 x2 ∧ fitM x2 x4 ∧ fitA (x1 * x4) (x3 * x2))) ∧ ((u.1 : Int32).toInt = 0 → ((u.2.1, u.2.2) : Int64 × Int64) = redW ((x1 * x4) + (x3 * x2)) (x2 * x4))) (bW D (va_A [(h0, .inr (10, (Value.int (q 0) :: Value.int (q 1) :: Value.int (q 2) :: Value.int (q 3) :: Value.int (q 4) :: Value.int (q 5) :: Value.int (q 6) :: Value.int (q 7) :: Value.ref (a 8) :: Value.ref (a 9) :: Value.ref (a 10) :: Value.ref (a 11) :: Value.ref (a 12) :: Value.ref (a 13) :: Value.int (q 14) :: Value.long v :: Value.long w :: Value.ref (a 17) :: Value.ref (a 18) :: Value.ref (a 19) :: Value.ref (a 20) :: Value.ref (a 21) :: Value.ref (a 22) :: Value.ref (a 23) :: Value.int (q 24) :: Value.ref (a 25) :: Value.int (q 26) :: Value.ref (a 27) :: Value.int (q 28) :: Value.int (q 29) :: Value.int (q 30) :: Value.int (q 31) :: Value.int (q 32) :: Value.int (q 33) :: Value.ref (a 34) :: Value.ref (a 35) :: Value.ref (a 36) :: Value.ref (a 37) :: Value.ref (a 38) :: Value.ref (a 39) :: Value.ref (a 40) :: Value.int (q 41) :: Value.ref (a 42) :: Value.int (q 43) :: Value.int (q 44) :: [])))] sz) (fun (u : (Int32) × (Int64) × (Int64)) => [(h0, .inr (10, (Value.int (q 0) :: Value.int (q 1) :: Value.int (q 2) :: Value.int (q 3) :: Value.int (q 4) :: Value.int (q 5) :: Value.int (q 6) :: Value.int (q 7) :: Value.ref (a 8) :: Value.ref (a 9) :: Value.ref (a 10) :: Value.ref (a 11) :: Value.ref (a 12) :: Value.ref (a 13) :: Value.int u.1 :: Value.long u.2.1 :: Value.long u.2.2 :: Value.ref (a 17) :: Value.ref (a 18) :: Value.ref (a 19) :: Value.ref (a 20) :: Value.ref (a 21) :: Value.ref (a 22) :: Value.ref (a 23) :: Value.int (q 24) :: Value.ref (a 25) :: Value.int (q 26) :: Value.ref (a 27) :: Value.int (q 28) :: Value.int (q 29) :: Value.int (q 30) :: Value.int (q 31) :: Value.int (q 32) :: Value.int (q 33) :: Value.ref (a 34) :: Value.ref (a 35) :: Value.ref (a 36) :: Value.ref (a 37) :: Value.ref (a 38) :: Value.ref (a 39) :: Value.ref (a 40) :: Value.int (q 41) :: Value.ref (a 42) :: Value.int (q 43) :: Value.int (q 44) :: [])))])) (va_A [(h0, .inr (10, (Value.int (q 0) :: Value.int (q 1) :: Value.int (q 2) :: Value.int (q 3) :: Value.int (q 4) :: Value.int (q 5) :: Value.int (q 6) :: Value.int (q 7) :: Value.ref (a 8) :: Value.ref (a 9) :: Value.ref (a 10) :: Value.ref (a 11) :: Value.ref (a 12) :: Value.ref (a 13) :: Value.int (q 14) :: Value.long v :: Value.long w :: Value.ref (a 17) :: Value.ref (a 18) :: Value.ref (a 19) :: Value.ref (a 20) :: Value.ref (a 21) :: Value.ref (a 22) :: Value.ref (a 23) :: Value.int (q 24) :: Value.ref (a 25) :: Value.int (q 26) :: Value.ref (a 27) :: Value.int (q 28) :: Value.int (q 29) :: Value.int (q 30) :: Value.int (q 31) :: Value.int (q 32) :: Value.int (q 33) :: Value.ref (a 34) :: Value.ref (a 35) :: Value.ref (a 36) :: Value.ref (a 37) :: Value.ref (a 38) :: Value.ref (a 39) :: Value.ref (a 40) :: Value.int (q 41) :: Value.ref (a 42) :: Value.int (q 43) :: Value.int (q 44) :: [])))] sz)) 0 0 (va_A [(h0, .inr (10, (Value.int (q 0) :: Value.int (q 1) :: Value.int (q 2) :: Value.int (q 3) :: Value.int (q 4) :: Value.int (q 5) :: Value.int (q 6) :: Value.int (q 7) :: Value.ref (a 8) :: Value.ref (a 9) :: Value.ref (a 10) :: Value.ref (a 11) :: Value.ref (a 12) :: Value.ref (a 13) :: Value.int (q 14) :: Value.long v :: Value.long w :: Value.ref (a 17) :: Value.ref (a 18) :: Value.ref (a 19) :: Value.ref (a 20) :: Value.ref (a 21) :: Value.ref (a 22) :: Value.ref (a 23) :: Value.int (q 24) :: Value.ref (a 25) :: Value.int (q 26) :: Value.ref (a 27) :: Value.int (q 28) :: Value.int (q 29) :: Value.int (q 30) :: Value.int (q 31) :: Value.int (q 32) :: Value.int (q 33) :: Value.ref (a 34) :: Value.ref (a 35) :: Value.ref (a 36) :: Value.ref (a 37) :: Value.ref (a 38) :: Value.ref (a 39) :: Value.ref (a 40) :: Value.int (q 41) :: Value.ref (a 42) :: Value.int (q 43) :: Value.int (q 44) :: [])))] sz) := by
  refine Met.ofW (cc := cX13_adds) (maxL := 17) (ret := none) (by decide +kernel) rfl ?_
  intro p e s m args below meth c s₁ B hml hv
  obtain ⟨rfl, hsz, hP, hE, hD0⟩ := hv
  have hx := B.exec
  have hb := B.bytes
  have hr := B.returns
  have hts := atoms_spec (ws := wsX13_adds) B.pre
  have hown : s.vm.findClass RX13 = some m.cls := findClass_of_methodNamed B.named
  have hlocks := B.notSynchronized
  subst hsz
  have hD := hD0.self (sz := s.heap.size)
  generalize hAe : va_A [(h0, .inr (10, (Value.int (q 0) :: Value.int (q 1) :: Value.int (q 2) :: Value.int (q 3) :: Value.int (q 4) :: Value.int (q 5) :: Value.int (q 6) :: Value.int (q 7) :: Value.ref (a 8) :: Value.ref (a 9) :: Value.ref (a 10) :: Value.ref (a 11) :: Value.ref (a 12) :: Value.ref (a 13) :: Value.int (q 14) :: Value.long v :: Value.long w :: Value.ref (a 17) :: Value.ref (a 18) :: Value.ref (a 19) :: Value.ref (a 20) :: Value.ref (a 21) :: Value.ref (a 22) :: Value.ref (a 23) :: Value.int (q 24) :: Value.ref (a 25) :: Value.int (q 26) :: Value.ref (a 27) :: Value.int (q 28) :: Value.int (q 29) :: Value.int (q 30) :: Value.int (q 31) :: Value.int (q 32) :: Value.int (q 33) :: Value.ref (a 34) :: Value.ref (a 35) :: Value.ref (a 36) :: Value.ref (a 37) :: Value.ref (a 38) :: Value.ref (a 39) :: Value.ref (a 40) :: Value.int (q 41) :: Value.ref (a 42) :: Value.int (q 43) :: Value.int (q 44) :: [])))] s.heap.size = A at hD ⊢
  have hA : ∀ q : Nat, s.heap.size ≤ q → A q := fun q h => by rw [← hAe]; exact Or.inr h
  have hS : va_S A s.heap s.heap [] := va_S.rf
  have hP : va_P D vwCl [(h0, .inr (10, (Value.int (q 0) :: Value.int (q 1) :: Value.int (q 2) :: Value.int (q 3) :: Value.int (q 4) :: Value.int (q 5) :: Value.int (q 6) :: Value.int (q 7) :: Value.ref (a 8) :: Value.ref (a 9) :: Value.ref (a 10) :: Value.ref (a 11) :: Value.ref (a 12) :: Value.ref (a 13) :: Value.int (q 14) :: Value.long v :: Value.long w :: Value.ref (a 17) :: Value.ref (a 18) :: Value.ref (a 19) :: Value.ref (a 20) :: Value.ref (a 21) :: Value.ref (a 22) :: Value.ref (a 23) :: Value.int (q 24) :: Value.ref (a 25) :: Value.int (q 26) :: Value.ref (a 27) :: Value.int (q 28) :: Value.int (q 29) :: Value.int (q 30) :: Value.int (q 31) :: Value.int (q 32) :: Value.int (q 33) :: Value.ref (a 34) :: Value.ref (a 35) :: Value.ref (a 36) :: Value.ref (a 37) :: Value.ref (a 38) :: Value.ref (a 39) :: Value.ref (a 40) :: Value.int (q 41) :: Value.ref (a 42) :: Value.int (q 43) :: Value.int (q 44) :: [])))] s.heap := hP
  have hl := lv_entry ([.ref h0, .long x1, .long x2, .long x3, .long x4]) (n := 17) (Nat.le_of_ble_eq_true rfl)
  rw [lg_entry_eq]
  generalize (lg_sl ([.ref h0, .long x1, .long x2, .long x3, .long x4]) ++ List.replicate (17 - (lg_sl ([.ref h0, .long x1, .long x2, .long x3, .long x4])).length) Slot.unset).toArray = ls at hl ⊢
  have hl : lv_has ls 17 [(0, .ref h0), (1, .long x1), (3, .long x2), (5, .long x3), (7, .long x4)] := hl
  clear hD0
  refine lv_aload_n hx hb dX13_adds_0 rfl (lv_at hl 0 rfl) ?_
  refine lv_lload_n hx hb dX13_adds_1 rfl (lv_at hl 1 rfl) ?_
  refine lv_lload hx hb dX13_adds_2 (lv_at hl 4 rfl) ?_
  have hFc := va_free (wc := [(h0, .inr (10, (Value.int (q 0) :: Value.int (q 1) :: Value.int (q 2) :: Value.int (q 3) :: Value.int (q 4) :: Value.int (q 5) :: Value.int (q 6) :: Value.int (q 7) :: Value.ref (a 8) :: Value.ref (a 9) :: Value.ref (a 10) :: Value.ref (a 11) :: Value.ref (a 12) :: Value.ref (a 13) :: Value.int (q 14) :: Value.long v :: Value.long w :: Value.ref (a 17) :: Value.ref (a 18) :: Value.ref (a 19) :: Value.ref (a 20) :: Value.ref (a 21) :: Value.ref (a 22) :: Value.ref (a 23) :: Value.int (q 24) :: Value.ref (a 25) :: Value.int (q 26) :: Value.ref (a 27) :: Value.int (q 28) :: Value.int (q 29) :: Value.int (q 30) :: Value.int (q 31) :: Value.int (q 32) :: Value.int (q 33) :: Value.ref (a 34) :: Value.ref (a 35) :: Value.ref (a 36) :: Value.ref (a 37) :: Value.ref (a 38) :: Value.ref (a 39) :: Value.ref (a 40) :: Value.int (q 41) :: Value.ref (a 42) :: Value.int (q 43) :: Value.int (q 44) :: [])))]) hD hS hA [0] rfl
  refine va_calll (va_runV (As := [.long x1, .long x4]) (rest := []) ⟨hx, hb, hml, hown, hts⟩ (c_X13_times l D T _ h0 q v w a x1 x4 (show isB (q 14) from hB)) (cwV 2 hts gX13_adds_X13_times rfl rfl rfl hv_X13_times ⟨Nat.le_of_ble_eq_true rfl, Nat.le_of_ble_eq_true rfl⟩) (pW_V (q := (RX13, TX13, 45)) (ci := 10) (q0 := 0) hP hE hD rfl rfl [0] (by decide +kernel) rfl rfl) rfl rfl hl.1 rfl (lv_room (Nat.le_of_ble_eq_true rfl)) dX13_adds_4 ⟨Nat.le_of_ble_eq_true rfl, Nat.le_of_ble_eq_true rfl⟩) hS (fun q _ h => hFc q h) hFc (fun r_1 u_2 t H1 locs ht hvm hr_1 hB hz1 hk1 hS => ?_)
  obtain ⟨hi0_r_1, hi1_r_1, hi2_r_1⟩ := hr_1
  have hB14_r_1 : isB u_2 := hi0_r_1
  have hj1_r_1 : (u_2 : Int32).toInt = 0 ↔ (((q 14) : Int32).toInt = 0 ∧ fitM x1 x4) := hi1_r_1
  have hj2_r_1 : r_1 = x1 * x4 := hi2_r_1
  obtain ⟨hP1, hD1⟩ := hB
  rw [ht] at hP1
  obtain ⟨hP, hD⟩ := va_repl [(h0, .inr (10, (Value.int (q 0) :: Value.int (q 1) :: Value.int (q 2) :: Value.int (q 3) :: Value.int (q 4) :: Value.int (q 5) :: Value.int (q 6) :: Value.int (q 7) :: Value.ref (a 8) :: Value.ref (a 9) :: Value.ref (a 10) :: Value.ref (a 11) :: Value.ref (a 12) :: Value.ref (a 13) :: Value.int u_2 :: Value.long v :: Value.long w :: Value.ref (a 17) :: Value.ref (a 18) :: Value.ref (a 19) :: Value.ref (a 20) :: Value.ref (a 21) :: Value.ref (a 22) :: Value.ref (a 23) :: Value.int (q 24) :: Value.ref (a 25) :: Value.int (q 26) :: Value.ref (a 27) :: Value.int (q 28) :: Value.int (q 29) :: Value.int (q 30) :: Value.int (q 31) :: Value.int (q 32) :: Value.int (q 33) :: Value.ref (a 34) :: Value.ref (a 35) :: Value.ref (a 36) :: Value.ref (a 37) :: Value.ref (a 38) :: Value.ref (a 39) :: Value.ref (a 40) :: Value.int (q 41) :: Value.ref (a 42) :: Value.int (q 43) :: Value.int (q 44) :: [])))] hP hD [0] [0] rfl (by decide +kernel) rfl rfl rfl hk1 hP1
  clear hP1 hD1 hFc
  generalize H1 = H at hP hS ⊢
  refine lv_lstore (lv' := [(9, .long r_1), (0, .ref h0), (1, .long x1), (3, .long x2), (5, .long x3), (7, .long x4)]) hx hb dX13_adds_7 hl (by decide +kernel) rfl (fun ls hl => ?_)
  refine lv_aload_n hx hb dX13_adds_9 rfl (lv_at hl 1 rfl) ?_
  refine lv_lload hx hb dX13_adds_10 (lv_at hl 4 rfl) ?_
  refine lv_lload_n hx hb dX13_adds_12 rfl (lv_at hl 3 rfl) ?_
  have hFc := va_free (wc := [(h0, .inr (10, (Value.int (q 0) :: Value.int (q 1) :: Value.int (q 2) :: Value.int (q 3) :: Value.int (q 4) :: Value.int (q 5) :: Value.int (q 6) :: Value.int (q 7) :: Value.ref (a 8) :: Value.ref (a 9) :: Value.ref (a 10) :: Value.ref (a 11) :: Value.ref (a 12) :: Value.ref (a 13) :: Value.int u_2 :: Value.long v :: Value.long w :: Value.ref (a 17) :: Value.ref (a 18) :: Value.ref (a 19) :: Value.ref (a 20) :: Value.ref (a 21) :: Value.ref (a 22) :: Value.ref (a 23) :: Value.int (q 24) :: Value.ref (a 25) :: Value.int (q 26) :: Value.ref (a 27) :: Value.int (q 28) :: Value.int (q 29) :: Value.int (q 30) :: Value.int (q 31) :: Value.int (q 32) :: Value.int (q 33) :: Value.ref (a 34) :: Value.ref (a 35) :: Value.ref (a 36) :: Value.ref (a 37) :: Value.ref (a 38) :: Value.ref (a 39) :: Value.ref (a 40) :: Value.int (q 41) :: Value.ref (a 42) :: Value.int (q 43) :: Value.int (q 44) :: [])))]) hD hS hA [0] rfl
  refine va_calll (va_runV (As := [.long x3, .long x2]) (rest := []) ⟨hx, hb, hml, hown, hts⟩ (c_X13_times l D T _ h0 (fun k => cond (Nat.beq k 14) u_2 (q k)) v w a x3 x2 (show isB u_2 from hB14_r_1)) (cwV 2 hts gX13_adds_X13_times rfl rfl rfl hv_X13_times ⟨Nat.le_of_ble_eq_true rfl, Nat.le_of_ble_eq_true rfl⟩) (pW_V (q := (RX13, TX13, 45)) (ci := 10) (q0 := 0) hP hE hD rfl rfl [0] (by decide +kernel) rfl rfl) rfl rfl hl.1 rfl (lv_room (Nat.le_of_ble_eq_true rfl)) dX13_adds_13 ⟨Nat.le_of_ble_eq_true rfl, Nat.le_of_ble_eq_true rfl⟩) hS (fun q _ h => hFc q h) hFc (fun r_3 u_4 t H1 locs ht hvm hr_3 hB hz1 hk1 hS => ?_)
  obtain ⟨hi0_r_3, hi1_r_3, hi2_r_3⟩ := hr_3
  have hB14_r_3 : isB u_4 := hi0_r_3
  have hj1_r_3 : (u_4 : Int32).toInt = 0 ↔ ((u_2 : Int32).toInt = 0 ∧ fitM x3 x2) := hi1_r_3
  have hj2_r_3 : r_3 = x3 * x2 := hi2_r_3
  obtain ⟨hP1, hD1⟩ := hB
  rw [ht] at hP1
  obtain ⟨hP, hD⟩ := va_repl [(h0, .inr (10, (Value.int (q 0) :: Value.int (q 1) :: Value.int (q 2) :: Value.int (q 3) :: Value.int (q 4) :: Value.int (q 5) :: Value.int (q 6) :: Value.int (q 7) :: Value.ref (a 8) :: Value.ref (a 9) :: Value.ref (a 10) :: Value.ref (a 11) :: Value.ref (a 12) :: Value.ref (a 13) :: Value.int u_4 :: Value.long v :: Value.long w :: Value.ref (a 17) :: Value.ref (a 18) :: Value.ref (a 19) :: Value.ref (a 20) :: Value.ref (a 21) :: Value.ref (a 22) :: Value.ref (a 23) :: Value.int (q 24) :: Value.ref (a 25) :: Value.int (q 26) :: Value.ref (a 27) :: Value.int (q 28) :: Value.int (q 29) :: Value.int (q 30) :: Value.int (q 31) :: Value.int (q 32) :: Value.int (q 33) :: Value.ref (a 34) :: Value.ref (a 35) :: Value.ref (a 36) :: Value.ref (a 37) :: Value.ref (a 38) :: Value.ref (a 39) :: Value.ref (a 40) :: Value.int (q 41) :: Value.ref (a 42) :: Value.int (q 43) :: Value.int (q 44) :: [])))] hP hD [0] [0] rfl (by decide +kernel) rfl rfl rfl hk1 hP1
  clear hP1 hD1 hFc
  generalize H1 = H at hP hS ⊢
  refine lv_lstore (lv' := [(11, .long r_3), (9, .long r_1), (0, .ref h0), (1, .long x1), (3, .long x2), (5, .long x3), (7, .long x4)]) hx hb dX13_adds_16 hl (by decide +kernel) rfl (fun ls hl => ?_)
  refine lv_aload_n hx hb dX13_adds_18 rfl (lv_at hl 2 rfl) ?_
  refine lv_lload_n hx hb dX13_adds_19 rfl (lv_at hl 4 rfl) ?_
  refine lv_lload hx hb dX13_adds_20 (lv_at hl 6 rfl) ?_
  have hFc := va_free (wc := [(h0, .inr (10, (Value.int (q 0) :: Value.int (q 1) :: Value.int (q 2) :: Value.int (q 3) :: Value.int (q 4) :: Value.int (q 5) :: Value.int (q 6) :: Value.int (q 7) :: Value.ref (a 8) :: Value.ref (a 9) :: Value.ref (a 10) :: Value.ref (a 11) :: Value.ref (a 12) :: Value.ref (a 13) :: Value.int u_4 :: Value.long v :: Value.long w :: Value.ref (a 17) :: Value.ref (a 18) :: Value.ref (a 19) :: Value.ref (a 20) :: Value.ref (a 21) :: Value.ref (a 22) :: Value.ref (a 23) :: Value.int (q 24) :: Value.ref (a 25) :: Value.int (q 26) :: Value.ref (a 27) :: Value.int (q 28) :: Value.int (q 29) :: Value.int (q 30) :: Value.int (q 31) :: Value.int (q 32) :: Value.int (q 33) :: Value.ref (a 34) :: Value.ref (a 35) :: Value.ref (a 36) :: Value.ref (a 37) :: Value.ref (a 38) :: Value.ref (a 39) :: Value.ref (a 40) :: Value.int (q 41) :: Value.ref (a 42) :: Value.int (q 43) :: Value.int (q 44) :: [])))]) hD hS hA [0] rfl
  refine va_calll (va_runV (As := [.long x2, .long x4]) (rest := []) ⟨hx, hb, hml, hown, hts⟩ (c_X13_times l D T _ h0 (fun k => cond (Nat.beq k 14) u_4 (q k)) v w a x2 x4 (show isB u_4 from hB14_r_3)) (cwV 2 hts gX13_adds_X13_times rfl rfl rfl hv_X13_times ⟨Nat.le_of_ble_eq_true rfl, Nat.le_of_ble_eq_true rfl⟩) (pW_V (q := (RX13, TX13, 45)) (ci := 10) (q0 := 0) hP hE hD rfl rfl [0] (by decide +kernel) rfl rfl) rfl rfl hl.1 rfl (lv_room (Nat.le_of_ble_eq_true rfl)) dX13_adds_22 ⟨Nat.le_of_ble_eq_true rfl, Nat.le_of_ble_eq_true rfl⟩) hS (fun q _ h => hFc q h) hFc (fun r_5 u_6 t H1 locs ht hvm hr_5 hB hz1 hk1 hS => ?_)
  obtain ⟨hi0_r_5, hi1_r_5, hi2_r_5⟩ := hr_5
  have hB14_r_5 : isB u_6 := hi0_r_5
  have hj1_r_5 : (u_6 : Int32).toInt = 0 ↔ ((u_4 : Int32).toInt = 0 ∧ fitM x2 x4) := hi1_r_5
  have hj2_r_5 : r_5 = x2 * x4 := hi2_r_5
  obtain ⟨hP1, hD1⟩ := hB
  rw [ht] at hP1
  obtain ⟨hP, hD⟩ := va_repl [(h0, .inr (10, (Value.int (q 0) :: Value.int (q 1) :: Value.int (q 2) :: Value.int (q 3) :: Value.int (q 4) :: Value.int (q 5) :: Value.int (q 6) :: Value.int (q 7) :: Value.ref (a 8) :: Value.ref (a 9) :: Value.ref (a 10) :: Value.ref (a 11) :: Value.ref (a 12) :: Value.ref (a 13) :: Value.int u_6 :: Value.long v :: Value.long w :: Value.ref (a 17) :: Value.ref (a 18) :: Value.ref (a 19) :: Value.ref (a 20) :: Value.ref (a 21) :: Value.ref (a 22) :: Value.ref (a 23) :: Value.int (q 24) :: Value.ref (a 25) :: Value.int (q 26) :: Value.ref (a 27) :: Value.int (q 28) :: Value.int (q 29) :: Value.int (q 30) :: Value.int (q 31) :: Value.int (q 32) :: Value.int (q 33) :: Value.ref (a 34) :: Value.ref (a 35) :: Value.ref (a 36) :: Value.ref (a 37) :: Value.ref (a 38) :: Value.ref (a 39) :: Value.ref (a 40) :: Value.int (q 41) :: Value.ref (a 42) :: Value.int (q 43) :: Value.int (q 44) :: [])))] hP hD [0] [0] rfl (by decide +kernel) rfl rfl rfl hk1 hP1
  clear hP1 hD1 hFc
  generalize H1 = H at hP hS ⊢
  refine lv_lstore (lv' := [(13, .long r_5), (11, .long r_3), (9, .long r_1), (0, .ref h0), (1, .long x1), (3, .long x2), (5, .long x3), (7, .long x4)]) hx hb dX13_adds_25 hl (by decide +kernel) rfl (fun ls hl => ?_)
  refine lv_aload_n hx hb dX13_adds_27 rfl (lv_at hl 3 rfl) ?_
  refine va_get (D := D) (ci := 10) (v := .int u_6) (C := RX13) (T := TX13) (N := 45) hx hb hts in_X13_adds_X13 hown hE.1 hP 0 rfl rfl 14 (by decide +kernel) (hts (.fieldLink RX13 131 "ClauseBookModel" "isMuch" "Z") (List.mem_of_getElem? (i := 1) rfl)) (fun _ h9 => h9) rfl dX13_adds_28 ?_
  refine lv_if_eq (tgt := 38) hx hb dX13_adds_31 (by decide +kernel) (fun c_7 => ?_) (fun c_7 => ?_)
  · rw [fa_eq] at c_7
    try rw [ti_0] at c_7
    refine lv_aload_n hx hb dX13_adds_38 rfl (lv_at hl 3 rfl) ?_
    refine lv_lload hx hb dX13_adds_39 (lv_at hl 2 rfl) ?_
    refine lv_lload hx hb dX13_adds_41 (lv_at hl 1 rfl) ?_
    have hFc := va_free (wc := [(h0, .inr (10, (Value.int (q 0) :: Value.int (q 1) :: Value.int (q 2) :: Value.int (q 3) :: Value.int (q 4) :: Value.int (q 5) :: Value.int (q 6) :: Value.int (q 7) :: Value.ref (a 8) :: Value.ref (a 9) :: Value.ref (a 10) :: Value.ref (a 11) :: Value.ref (a 12) :: Value.ref (a 13) :: Value.int u_6 :: Value.long v :: Value.long w :: Value.ref (a 17) :: Value.ref (a 18) :: Value.ref (a 19) :: Value.ref (a 20) :: Value.ref (a 21) :: Value.ref (a 22) :: Value.ref (a 23) :: Value.int (q 24) :: Value.ref (a 25) :: Value.int (q 26) :: Value.ref (a 27) :: Value.int (q 28) :: Value.int (q 29) :: Value.int (q 30) :: Value.int (q 31) :: Value.int (q 32) :: Value.int (q 33) :: Value.ref (a 34) :: Value.ref (a 35) :: Value.ref (a 36) :: Value.ref (a 37) :: Value.ref (a 38) :: Value.ref (a 39) :: Value.ref (a 40) :: Value.int (q 41) :: Value.ref (a 42) :: Value.int (q 43) :: Value.int (q 44) :: [])))]) hD hS hA [0] rfl
    refine va_calll (va_runV (As := [.long r_1, .long r_3]) (rest := []) ⟨hx, hb, hml, hown, hts⟩ (c_X13_plus l D T _ h0 (fun k => cond (Nat.beq k 14) u_6 (q k)) v w a r_1 r_3 (show isB u_6 from hB14_r_5)) (cwV 2 hts gX13_adds_X13_plus rfl rfl rfl hv_X13_plus ⟨Nat.le_of_ble_eq_true rfl, Nat.le_of_ble_eq_true rfl⟩) (pW_V (q := (RX13, TX13, 45)) (ci := 10) (q0 := 0) hP hE hD rfl rfl [0] (by decide +kernel) rfl rfl) rfl rfl hl.1 rfl (lv_room (Nat.le_of_ble_eq_true rfl)) dX13_adds_43 ⟨Nat.le_of_ble_eq_true rfl, Nat.le_of_ble_eq_true rfl⟩) hS (fun q _ h => hFc q h) hFc (fun r_8 u_9 t H1 locs ht hvm hr_8 hB hz1 hk1 hS => ?_)
    obtain ⟨hi0_r_8, hi1_r_8, hi2_r_8⟩ := hr_8
    have hB14_r_8 : isB u_9 := hi0_r_8
    have hj1_r_8 : (u_9 : Int32).toInt = 0 ↔ ((u_6 : Int32).toInt = 0 ∧ fitA r_1 r_3) := hi1_r_8
    have hj2_r_8 : r_8 = r_1 + r_3 := hi2_r_8
    obtain ⟨hP1, hD1⟩ := hB
    rw [ht] at hP1
    obtain ⟨hP, hD⟩ := va_repl [(h0, .inr (10, (Value.int (q 0) :: Value.int (q 1) :: Value.int (q 2) :: Value.int (q 3) :: Value.int (q 4) :: Value.int (q 5) :: Value.int (q 6) :: Value.int (q 7) :: Value.ref (a 8) :: Value.ref (a 9) :: Value.ref (a 10) :: Value.ref (a 11) :: Value.ref (a 12) :: Value.ref (a 13) :: Value.int u_9 :: Value.long v :: Value.long w :: Value.ref (a 17) :: Value.ref (a 18) :: Value.ref (a 19) :: Value.ref (a 20) :: Value.ref (a 21) :: Value.ref (a 22) :: Value.ref (a 23) :: Value.int (q 24) :: Value.ref (a 25) :: Value.int (q 26) :: Value.ref (a 27) :: Value.int (q 28) :: Value.int (q 29) :: Value.int (q 30) :: Value.int (q 31) :: Value.int (q 32) :: Value.int (q 33) :: Value.ref (a 34) :: Value.ref (a 35) :: Value.ref (a 36) :: Value.ref (a 37) :: Value.ref (a 38) :: Value.ref (a 39) :: Value.ref (a 40) :: Value.int (q 41) :: Value.ref (a 42) :: Value.int (q 43) :: Value.int (q 44) :: [])))] hP hD [0] [0] rfl (by decide +kernel) rfl rfl rfl hk1 hP1
    clear hP1 hD1 hFc
    generalize H1 = H at hP hS ⊢
    refine lv_lstore (lv' := [(15, .long r_8), (13, .long r_5), (11, .long r_3), (9, .long r_1), (0, .ref h0), (1, .long x1), (3, .long x2), (5, .long x3), (7, .long x4)]) hx hb dX13_adds_46 hl (by decide +kernel) rfl (fun ls hl => ?_)
    refine lv_aload_n hx hb dX13_adds_48 rfl (lv_at hl 4 rfl) ?_
    refine lv_lload hx hb dX13_adds_49 (lv_at hl 0 rfl) ?_
    refine lv_lload hx hb dX13_adds_51 (lv_at hl 1 rfl) ?_
    have hFc := va_free (wc := [(h0, .inr (10, (Value.int (q 0) :: Value.int (q 1) :: Value.int (q 2) :: Value.int (q 3) :: Value.int (q 4) :: Value.int (q 5) :: Value.int (q 6) :: Value.int (q 7) :: Value.ref (a 8) :: Value.ref (a 9) :: Value.ref (a 10) :: Value.ref (a 11) :: Value.ref (a 12) :: Value.ref (a 13) :: Value.int u_9 :: Value.long v :: Value.long w :: Value.ref (a 17) :: Value.ref (a 18) :: Value.ref (a 19) :: Value.ref (a 20) :: Value.ref (a 21) :: Value.ref (a 22) :: Value.ref (a 23) :: Value.int (q 24) :: Value.ref (a 25) :: Value.int (q 26) :: Value.ref (a 27) :: Value.int (q 28) :: Value.int (q 29) :: Value.int (q 30) :: Value.int (q 31) :: Value.int (q 32) :: Value.int (q 33) :: Value.ref (a 34) :: Value.ref (a 35) :: Value.ref (a 36) :: Value.ref (a 37) :: Value.ref (a 38) :: Value.ref (a 39) :: Value.ref (a 40) :: Value.int (q 41) :: Value.ref (a 42) :: Value.int (q 43) :: Value.int (q 44) :: [])))]) hD hS hA [0] rfl
    refine va_callv (va_runV (As := [.long r_8, .long r_5]) (rest := []) ⟨hx, hb, hml, hown, hts⟩ (c_X13_becomes l D T _ h0 (fun k => cond (Nat.beq k 14) u_9 (q k)) v w a r_8 r_5 (show (u_9 : Int32).toInt = 0 → 1 ≤ r_5.toInt from (fun h9 => den_pos hx2 hx4 (hj1_r_5.1 (hj1_r_8.1 h9).1).2 hj2_r_5))) (cwV 2 hts gX13_adds_X13_becomes rfl rfl rfl hv_X13_becomes ⟨Nat.le_of_ble_eq_true rfl, Nat.le_of_ble_eq_true rfl⟩) (pW_V (q := (RX13, TX13, 45)) (ci := 10) (q0 := 0) hP hE hD rfl rfl [0] (by decide +kernel) rfl rfl) rfl rfl hl.1 rfl (lv_room (Nat.le_of_ble_eq_true rfl)) dX13_adds_53 ⟨Nat.le_of_ble_eq_true rfl, Nat.le_of_ble_eq_true rfl⟩) hS (fun q _ h => hFc q h) hFc (fun u_11 t H1 locs ht hvm hr_10 hB hz1 hk1 hS => ?_)
    obtain ⟨l_12, l_13⟩ := u_11
    obtain ⟨hi0_r_10, hi1_r_10⟩ := hr_10
    have hj0_r_10 : (u_9 : Int32).toInt = 0 ∨ 1 ≤ w.toInt → 1 ≤ l_13.toInt := hi0_r_10
    have hj1_r_10 : (u_9 : Int32).toInt = 0 → ((l_12, l_13) : Int64 × Int64) = redW r_8 r_5 := hi1_r_10
    obtain ⟨hP1, hD1⟩ := hB
    rw [ht] at hP1
    obtain ⟨hP, hD⟩ := va_repl [(h0, .inr (10, (Value.int (q 0) :: Value.int (q 1) :: Value.int (q 2) :: Value.int (q 3) :: Value.int (q 4) :: Value.int (q 5) :: Value.int (q 6) :: Value.int (q 7) :: Value.ref (a 8) :: Value.ref (a 9) :: Value.ref (a 10) :: Value.ref (a 11) :: Value.ref (a 12) :: Value.ref (a 13) :: Value.int u_9 :: Value.long l_12 :: Value.long l_13 :: Value.ref (a 17) :: Value.ref (a 18) :: Value.ref (a 19) :: Value.ref (a 20) :: Value.ref (a 21) :: Value.ref (a 22) :: Value.ref (a 23) :: Value.int (q 24) :: Value.ref (a 25) :: Value.int (q 26) :: Value.ref (a 27) :: Value.int (q 28) :: Value.int (q 29) :: Value.int (q 30) :: Value.int (q 31) :: Value.int (q 32) :: Value.int (q 33) :: Value.ref (a 34) :: Value.ref (a 35) :: Value.ref (a 36) :: Value.ref (a 37) :: Value.ref (a 38) :: Value.ref (a 39) :: Value.ref (a 40) :: Value.int (q 41) :: Value.ref (a 42) :: Value.int (q 43) :: Value.int (q 44) :: [])))] hP hD [0] [0] rfl (by decide +kernel) rfl rfl rfl hk1 hP1
    clear hP1 hD1 hFc
    generalize H1 = H at hP hS ⊢
    exact W.vret hx hb hr (fun t ht hW => ⟨⟨(u_9, l_12, l_13), rfl, ⟨(show isB u_9 from hB14_r_8), (show 1 ≤ l_13.toInt from (by first | omega | (subst_vars; omega))), (show (u_9 : Int32).toInt = 0 ↔ (((q 14) : Int32).toInt = 0 ∧ fitM x1 x4 ∧ fitM x3 x2 ∧ fitM x2 x4 ∧ fitA (x1 * x4) (x3 * x2)) from ⟨(fun h9 => by have h8 := hj1_r_8.1 h9; have h7 := hj1_r_5.1 h8.1; have h6 := hj1_r_3.1 h7.1; have h5 := hj1_r_1.1 h6.1; rw [hj2_r_1, hj2_r_3] at h8; exact ⟨h5.1, h5.2, h6.2, h7.2, h8.2⟩), (fun h9 => hj1_r_8.2 ⟨(hj1_r_5.2 ⟨hj1_r_3.2 ⟨hj1_r_1.2 ⟨h9.1, h9.2.1⟩, h9.2.2.1⟩, h9.2.2.2.1⟩), by rw [hj2_r_1, hj2_r_3]; exact h9.2.2.2.2⟩)⟩), (show (u_9 : Int32).toInt = 0 → ((l_12, l_13) : Int64 × Int64) = redW ((x1 * x4) + (x3 * x2)) (x2 * x4) from (fun h9 => by rw [← hj2_r_1, ← hj2_r_3, ← hj2_r_5, ← hj2_r_8]; exact hj1_r_10 h9))⟩, by rw [ht]; exact hP.sub [0] rfl, hD.sub [0] (by decide +kernel) rfl⟩, hS.F ht⟩) hS.2.2 dX13_adds_56
  · rw [fa_eq] at c_7
    try rw [ti_0] at c_7
    refine lv_lconst (v := 0) hx hb dX13_adds_34 (by decide +kernel) ?_
    refine lv_goto (tgt := 46) hx hb dX13_adds_35 (by decide +kernel) ?_
    refine lv_lstore (lv' := [(15, .long 0), (13, .long r_5), (11, .long r_3), (9, .long r_1), (0, .ref h0), (1, .long x1), (3, .long x2), (5, .long x3), (7, .long x4)]) hx hb dX13_adds_46 hl (by decide +kernel) rfl (fun ls hl => ?_)
    refine lv_aload_n hx hb dX13_adds_48 rfl (lv_at hl 4 rfl) ?_
    refine lv_lload hx hb dX13_adds_49 (lv_at hl 0 rfl) ?_
    refine lv_lload hx hb dX13_adds_51 (lv_at hl 1 rfl) ?_
    have hFc := va_free (wc := [(h0, .inr (10, (Value.int (q 0) :: Value.int (q 1) :: Value.int (q 2) :: Value.int (q 3) :: Value.int (q 4) :: Value.int (q 5) :: Value.int (q 6) :: Value.int (q 7) :: Value.ref (a 8) :: Value.ref (a 9) :: Value.ref (a 10) :: Value.ref (a 11) :: Value.ref (a 12) :: Value.ref (a 13) :: Value.int u_6 :: Value.long v :: Value.long w :: Value.ref (a 17) :: Value.ref (a 18) :: Value.ref (a 19) :: Value.ref (a 20) :: Value.ref (a 21) :: Value.ref (a 22) :: Value.ref (a 23) :: Value.int (q 24) :: Value.ref (a 25) :: Value.int (q 26) :: Value.ref (a 27) :: Value.int (q 28) :: Value.int (q 29) :: Value.int (q 30) :: Value.int (q 31) :: Value.int (q 32) :: Value.int (q 33) :: Value.ref (a 34) :: Value.ref (a 35) :: Value.ref (a 36) :: Value.ref (a 37) :: Value.ref (a 38) :: Value.ref (a 39) :: Value.ref (a 40) :: Value.int (q 41) :: Value.ref (a 42) :: Value.int (q 43) :: Value.int (q 44) :: [])))]) hD hS hA [0] rfl
    refine va_callv (va_runV (As := [.long 0, .long r_5]) (rest := []) ⟨hx, hb, hml, hown, hts⟩ (c_X13_becomes l D T _ h0 (fun k => cond (Nat.beq k 14) u_6 (q k)) v w a 0 r_5 (show (u_6 : Int32).toInt = 0 → 1 ≤ r_5.toInt from (fun h9 => absurd h9 (by omega)))) (cwV 2 hts gX13_adds_X13_becomes rfl rfl rfl hv_X13_becomes ⟨Nat.le_of_ble_eq_true rfl, Nat.le_of_ble_eq_true rfl⟩) (pW_V (q := (RX13, TX13, 45)) (ci := 10) (q0 := 0) hP hE hD rfl rfl [0] (by decide +kernel) rfl rfl) rfl rfl hl.1 rfl (lv_room (Nat.le_of_ble_eq_true rfl)) dX13_adds_53 ⟨Nat.le_of_ble_eq_true rfl, Nat.le_of_ble_eq_true rfl⟩) hS (fun q _ h => hFc q h) hFc (fun u_15 t H1 locs ht hvm hr_14 hB hz1 hk1 hS => ?_)
    obtain ⟨l_16, l_17⟩ := u_15
    obtain ⟨hi0_r_14, hi1_r_14⟩ := hr_14
    have hj0_r_14 : (u_6 : Int32).toInt = 0 ∨ 1 ≤ w.toInt → 1 ≤ l_17.toInt := hi0_r_14
    have hj1_r_14 : (u_6 : Int32).toInt = 0 → ((l_16, l_17) : Int64 × Int64) = redW (0 : Int64) r_5 := hi1_r_14
    obtain ⟨hP1, hD1⟩ := hB
    rw [ht] at hP1
    obtain ⟨hP, hD⟩ := va_repl [(h0, .inr (10, (Value.int (q 0) :: Value.int (q 1) :: Value.int (q 2) :: Value.int (q 3) :: Value.int (q 4) :: Value.int (q 5) :: Value.int (q 6) :: Value.int (q 7) :: Value.ref (a 8) :: Value.ref (a 9) :: Value.ref (a 10) :: Value.ref (a 11) :: Value.ref (a 12) :: Value.ref (a 13) :: Value.int u_6 :: Value.long l_16 :: Value.long l_17 :: Value.ref (a 17) :: Value.ref (a 18) :: Value.ref (a 19) :: Value.ref (a 20) :: Value.ref (a 21) :: Value.ref (a 22) :: Value.ref (a 23) :: Value.int (q 24) :: Value.ref (a 25) :: Value.int (q 26) :: Value.ref (a 27) :: Value.int (q 28) :: Value.int (q 29) :: Value.int (q 30) :: Value.int (q 31) :: Value.int (q 32) :: Value.int (q 33) :: Value.ref (a 34) :: Value.ref (a 35) :: Value.ref (a 36) :: Value.ref (a 37) :: Value.ref (a 38) :: Value.ref (a 39) :: Value.ref (a 40) :: Value.int (q 41) :: Value.ref (a 42) :: Value.int (q 43) :: Value.int (q 44) :: [])))] hP hD [0] [0] rfl (by decide +kernel) rfl rfl rfl hk1 hP1
    clear hP1 hD1 hFc
    generalize H1 = H at hP hS ⊢
    exact W.vret hx hb hr (fun t ht hW => ⟨⟨(u_6, l_16, l_17), rfl, ⟨(show isB u_6 from hB14_r_5), (show 1 ≤ l_17.toInt from (by first | omega | (subst_vars; omega))), (show (u_6 : Int32).toInt = 0 ↔ (((q 14) : Int32).toInt = 0 ∧ fitM x1 x4 ∧ fitM x3 x2 ∧ fitM x2 x4 ∧ fitA (x1 * x4) (x3 * x2)) from ⟨(fun h9 => absurd h9 (by omega)), (fun h9 => absurd (hj1_r_5.2 ⟨hj1_r_3.2 ⟨hj1_r_1.2 ⟨h9.1, h9.2.1⟩, h9.2.2.1⟩, h9.2.2.2.1⟩) (by omega))⟩), (show (u_6 : Int32).toInt = 0 → ((l_16, l_17) : Int64 × Int64) = redW ((x1 * x4) + (x3 * x2)) (x2 * x4) from (fun h9 => absurd h9 (by omega)))⟩, by rw [ht]; exact hP.sub [0] rfl, hD.sub [0] (by decide +kernel) rfl⟩, hS.F ht⟩) hS.2.2 dX13_adds_56
