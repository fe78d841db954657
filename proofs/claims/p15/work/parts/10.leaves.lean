theorem sub_r {big ws : List Cond} (ps : List Nat) (hp : ws = ps.filterMap (fun i => big[i]?)) : ∀ w ∈ ws, w ∈ big := by
  intro w hw
  rw [hp] at hw
  obtain ⟨i, -, hi⟩ := List.mem_filterMap.mp hw
  first | exact List.mem_of_getElem? hi | exact List.getElem?_mem hi
theorem wPD {D : va_G} {cl : List vw_C} {w' : va_W} {A : Nat → Prop} {H : Heap} (w : va_W) (hP : va_P D cl w' H) (hD : va_D A w') (e : w' = w) : va_P D cl w H ∧ va_D A w := by
  subst e
  exact ⟨hP, hD⟩
theorem fm_some {ws : va_W} : ∀ (is : List Nat), (∀ i ∈ is, i < ws.length) → is.map (fun i => ws[i]?) = (is.filterMap (fun i => ws[i]?)).map some
  | [], _ => rfl
  | i :: t, h => by
    have hi : ws[i]? = some (ws[i]'(h i List.mem_cons_self)) := List.getElem?_eq_getElem _
    have ih := fm_some t (fun j hj => h j (List.mem_cons_of_mem _ hj))
    rw [List.map_cons, List.filterMap_cons, hi]
    show some _ :: _ = some _ :: _
    rw [ih]
theorem va_joinN {A0 : Nat → Prop} {D : va_G} {cl : List vw_C} {ws wc w1 : va_W} {H H1 : Heap} (w : va_W) (hP : va_P D cl ws H) (hD : va_D A0 ws) (isC isR : List Nat) (n : Nat) (hl : ws.length = n) (hC : isC.map (fun i => ws[i]?) = wc.map some) (hw : isR.filterMap (fun i => ws[i]?) ++ w1 = w) (hb : (va_nd isR && isR.all (fun i => Nat.blt i n && !isC.contains i)) = true)
    (hk : ∀ q : Nat, q < H.size → ¬ va_A wc H.size q → H1[q]? = H[q]?) (hF : ∀ q, va_A wc H.size q → A0 q) (hP1 : va_P D cl w1 H1) (hD1 : va_D (va_A wc H.size) w1) : va_P D cl w H1 ∧ va_D A0 w := by
  subst hw
  subst hl
  rw [Bool.and_eq_true, List.all_eq_true] at hb
  refine va_join hP hD isC isR hC (fm_some isR (fun i hi => ?_)) hb.1 (fun i hi hc => ?_) hk hF hP1 hD1
  · have h := hb.2 i hi
    rw [Bool.and_eq_true] at h
    exact Nat.le_of_ble_eq_true h.1
  · have h := hb.2 i hi
    rw [Bool.and_eq_true, List.contains_iff_mem.mpr hc] at h
    exact absurd h.2 (by decide)
theorem fm_of {ws w : va_W} : ∀ (is : List Nat) (w : va_W), is.map (fun i => ws[i]?) = w.map some → is.filterMap (fun i => ws[i]?) = w
  | [], [], _ => rfl
  | [], _ :: _, h => by cases h
  | _ :: _, [], h => by cases h
  | i :: t, x :: w, h => by
    rw [List.map_cons, List.map_cons] at h
    have h1 : ws[i]? = some x := (List.cons.inj h).1
    rw [List.filterMap_cons, h1]
    show x :: _ = x :: _
    rw [fm_of (w := w) t w (List.cons.inj h).2]
theorem va_joinL {A0 : Nat → Prop} {D : va_G} {cl : List vw_C} {ws wc w1 : va_W} {H H1 : Heap} (w : va_W) (hP : va_P D cl ws H) (hD : va_D A0 ws) (isC isR pm : List Nat) (n : Nat) (hl : ws.length = n) (hC : isC.map (fun i => ws[i]?) = wc.map some) (hw : pm.map (fun i => (isR.filterMap (fun i => ws[i]?) ++ w1)[i]?) = w.map some) (hb : (va_nd isR && isR.all (fun i => Nat.blt i n && !isC.contains i)) = true) (hb2 : va_nd pm = true)
    (hk : ∀ q : Nat, q < H.size → ¬ va_A wc H.size q → H1[q]? = H[q]?) (hF : ∀ q, va_A wc H.size q → A0 q) (hP1 : va_P D cl w1 H1) (hD1 : va_D (va_A wc H.size) w1) : va_P D cl w H1 ∧ va_D A0 w := by
  obtain ⟨p, d⟩ := va_joinN (isR.filterMap (fun i => ws[i]?) ++ w1) hP hD isC isR n hl hC rfl hb hk hF hP1 hD1
  exact ⟨p.sub pm (fm_of (w := w) pm w hw), d.sub pm hb2 hw⟩
/-- the cells at these places (in order) become others -/
def zipR : Nat → va_W → List Nat → va_W → va_W
  | _, ws, [], _ => ws
  | _, ws, _ :: _, [] => ws
  | _, [], _ :: _, _ :: _ => []
  | i, c :: t, j :: js, n :: ns => cond (Nat.beq i j) (n :: zipR (i + 1) t js ns) (c :: zipR (i + 1) t (j :: js) (n :: ns))
def incF : Nat → List Nat → Bool
  | _, [] => true
  | i, j :: js => Nat.ble i j && incF (j + 1) js
theorem incF_ge : ∀ (js : List Nat) (i k : Nat), incF i js = true → k ∈ js → i ≤ k
  | [], _, _, _, h => absurd h List.not_mem_nil
  | j :: js, i, k, h, hk => by
    have h2 : (Nat.ble i j && incF (j + 1) js) = true := h
    rw [Bool.and_eq_true] at h2
    have h3 := Nat.le_of_ble_eq_true h2.1
    rcases List.mem_cons.mp hk with e | e
    · omega
    · have := incF_ge js (j + 1) k h2.2 e
      omega
theorem zipR_at : ∀ (ws : va_W) (i : Nat) (js : List Nat) (ns : va_W) (k : Nat) (q : Nat × va_E), incF i js = true → js.length = ns.length → (zipR i ws js ns)[k]? = some q → q ∈ ns ∨ (ws[k]? = some q ∧ i + k ∉ js)
  | ws, _, [], _, _, _, _, _, h => by
    unfold zipR at h
    exact Or.inr ⟨h, List.not_mem_nil⟩
  | _, _, _ :: _, [], _, _, _, hl, _ => by cases hl
  | [], _, _ :: _, _ :: _, _, _, _, _, h => by
    unfold zipR at h
    cases h
  | c :: t, i, j :: js, n :: ns, k, q, hi, hl, h => by
    have h2 : (Nat.ble i j && incF (j + 1) js) = true := hi
    rw [Bool.and_eq_true] at h2
    have h3 := Nat.le_of_ble_eq_true h2.1
    have h : (cond (Nat.beq i j) (n :: zipR (i + 1) t js ns) (c :: zipR (i + 1) t (j :: js) (n :: ns)))[k]? = some q := h
    by_cases e : i = j
    · subst e
      rw [Nat.beq_refl] at h
      have h : (n :: zipR (i + 1) t js ns)[k]? = some q := h
      cases k with
      | zero => exact Or.inl (by rw [List.getElem?_cons_zero] at h; rw [← Option.some.inj h]; exact List.mem_cons_self)
      | succ k =>
        rw [List.getElem?_cons_succ] at h
        rcases zipR_at t (i + 1) js ns k q h2.2 (Nat.succ.inj hl) h with g | ⟨g, g2⟩
        · exact Or.inl (List.mem_cons_of_mem _ g)
        · refine Or.inr ⟨by rw [List.getElem?_cons_succ]; exact g, fun m => ?_⟩
          rcases List.mem_cons.mp m with m | m
          · omega
          · exact g2 (by rw [show i + 1 + k = i + (k + 1) by omega]; exact m)
    · have hb : Nat.beq i j = false := by
        cases hb : Nat.beq i j with
        | false => rfl
        | true => exact absurd (Nat.eq_of_beq_eq_true hb) e
      rw [hb] at h
      have h : (c :: zipR (i + 1) t (j :: js) (n :: ns))[k]? = some q := h
      have hi2 : incF (i + 1) (j :: js) = true := by
        show (Nat.ble (i + 1) j && incF (j + 1) js) = true
        rw [Bool.and_eq_true]
        exact ⟨Nat.ble_eq_true_of_le (by omega), h2.2⟩
      cases k with
      | zero =>
        rw [List.getElem?_cons_zero] at h
        refine Or.inr ⟨by rw [List.getElem?_cons_zero]; exact h, fun m => ?_⟩
        have := incF_ge (j :: js) (i + 1) (i + 0) hi2 m
        omega
      | succ k =>
        rw [List.getElem?_cons_succ] at h
        rcases zipR_at t (i + 1) (j :: js) (n :: ns) k q hi2 hl h with g | ⟨g, g2⟩
        · exact Or.inl g
        · exact Or.inr ⟨by rw [List.getElem?_cons_succ]; exact g, fun m => g2 (by rw [show i + 1 + k = i + (k + 1) by omega]; exact m)⟩
theorem va_repl {A0 : Nat → Prop} {D : va_G} {cl : List vw_C} {ws wc w1 : va_W} {H H1 : Heap} (w : va_W) (hP : va_P D cl ws H) (hD : va_D A0 ws) (isC isS : List Nat) (hC : isC.map (fun i => ws[i]?) = wc.map some) (hb : (incF 0 isS && isC.all (fun i => isS.contains i)) = true) (hw : zipR 0 ws isS w1 = w) (hl : isS.length = w1.length) (ha : w.map Prod.fst = ws.map Prod.fst)
    (hk : ∀ q : Nat, q < H.size → ¬ va_A wc H.size q → H1[q]? = H[q]?) (hP1 : va_P D cl w1 H1) : va_P D cl w H1 ∧ va_D A0 w := by
  rw [Bool.and_eq_true, List.all_eq_true] at hb
  have at' : ∀ (k : Nat) (q : Nat × va_E), wc[k]? = some q → ∃ i, isC[k]? = some i ∧ ws[i]? = some q := by
    intro k q hq
    have h1 : (isC.map (fun i => ws[i]?))[k]? = some (some q) := by rw [hC, List.getElem?_map, hq]; rfl
    rw [List.getElem?_map] at h1
    cases hi : isC[k]? with
    | none => rw [hi] at h1; cases h1
    | some i => rw [hi] at h1; exact ⟨i, rfl, Option.some.inj h1⟩
  have ad : ∀ (k : Nat) (q : Nat × va_E), w[k]? = some q → ∃ p, ws[k]? = some p ∧ p.1 = q.1 := by
    intro k q hq
    have h1 : (w.map Prod.fst)[k]? = some q.1 := by rw [List.getElem?_map, hq]; rfl
    rw [ha, List.getElem?_map] at h1
    cases hi : ws[k]? with
    | none => rw [hi] at h1; cases h1
    | some p => rw [hi] at h1; exact ⟨p, rfl, Option.some.inj h1⟩
  refine ⟨fun k q hq => ?_, fun i j p q hp hq e => ?_, fun k q hq => ?_⟩
  · rw [← hw] at hq
    rcases zipR_at ws 0 isS w1 k q hb.1 hl hq with g | ⟨g, g2⟩
    · obtain ⟨n, hn⟩ := List.getElem?_of_mem g
      exact hP1 n q hn
    · have hlt := (hP k q g).lt
      refine (hP k q g).kept (hk q.1 hlt (fun h => ?_))
      rcases h with ⟨k2, e, h⟩ | h
      · obtain ⟨j, h3, h4⟩ := at' k2 (q.1, e) h
        have hij := hD.1 k j q (q.1, e) g h4 rfl
        subst hij
        exact g2 (by rw [Nat.zero_add]; exact List.contains_iff_mem.mp (hb.2 k (List.mem_of_getElem? h3)))
      · omega
  · obtain ⟨p', hp', e1⟩ := ad i p hp
    obtain ⟨q', hq', e2⟩ := ad j q hq
    exact hD.1 i j p' q' hp' hq' (by rw [e1, e2]; exact e)
  · obtain ⟨q', hq', e2⟩ := ad k q hq
    rw [← e2]
    exact hD.2 k q' hq'
theorem fb_rng (x : Int32) : -2147483648 ≤ x.toInt ∧ x.toInt < 2147483648 := by
  have h1 := Int32.le_toInt x
  have h2 := Int32.toInt_lt x
  omega
theorem fb_bmod {z : Int} (h1 : -2147483648 ≤ z) (h2 : z < 2147483648) : z.bmod (2 ^ 32) = z := by
  rw [Int.bmod_eq_of_le (by omega) (by omega)]
theorem fb_addI {x y : Int32} (h1 : -2147483648 ≤ x.toInt + y.toInt) (h2 : x.toInt + y.toInt < 2147483648) : (x + y).toInt = x.toInt + y.toInt := by
  rw [Int32.toInt_add, fb_bmod h1 h2]
theorem fb_subI {x y : Int32} (h1 : -2147483648 ≤ x.toInt - y.toInt) (h2 : x.toInt - y.toInt < 2147483648) : (x - y).toInt = x.toInt - y.toInt := by
  rw [Int32.toInt_sub, fb_bmod h1 h2]
theorem fb_mulI {x y : Int32} (h1 : -2147483648 ≤ x.toInt * y.toInt) (h2 : x.toInt * y.toInt < 2147483648) : (x * y).toInt = x.toInt * y.toInt := by
  rw [Int32.toInt_mul, fb_bmod h1 h2]
theorem inc1 {i : Int32} {n : Int} (h : i.toInt < n) (hn : n ≤ 2147483647) : (i + 1).toInt = i.toInt + 1 := by
  have h0 := fb_rng i
  have e : (1 : Int32).toInt = 1 := ti_1
  rw [fb_addI (by omega) (by omega), e]
theorem dec1 {i : Int32} (h : -100 ≤ i.toInt) : (i - 1).toInt = i.toInt - 1 := by
  have h0 := fb_rng i
  have e : (1 : Int32).toInt = 1 := ti_1
  rw [fb_subI (by omega) (by omega), e]
theorem nz64 {y : Int64} (h : y.toInt ≠ 0) : ¬ y = 0 := fun e => h (by rw [e]; decide)
theorem rem_abs (x y : Int64) (h : y.toInt ≠ 0) : (x - x / y * y).toInt.natAbs < y.toInt.natAbs := by
  have e : (x - x / y * y).toInt = x.toInt.tmod y.toInt := by
    have hy1 := Int64.le_toInt y
    have hy2 := Int64.toInt_lt y
    have h1 : (x - x / y * y).toInt = (x.toInt - x.toInt.tdiv y.toInt * y.toInt).bmod (2 ^ 64) := by
      simp [Int64.toInt_sub, Int64.toInt_mul, Int64.toInt_div]
    have h2 : x.toInt - x.toInt.tdiv y.toInt * y.toInt = x.toInt.tmod y.toInt := by
      rw [Int.tmod_def, Int.mul_comm]
    rw [h1, h2]
    have h3 : (x.toInt.tmod y.toInt).natAbs < y.toInt.natAbs := by
      rw [Int.natAbs_tmod]
      exact Nat.mod_lt _ (by omega)
    rw [Int.bmod_eq_of_le (by omega) (by omega)]
  rw [e, Int.natAbs_tmod]
  exact Nat.mod_lt _ (by omega)
theorem neg_nz {x : Int64} (h : x.toInt ≠ 0) : (-x).toInt ≠ 0 := by
  intro e
  have e2 : (-x) = 0 := Int64.toInt_inj.1 (by rw [e]; decide)
  have e3 : - -x = -(0 : Int64) := by rw [e2]
  rw [Int64.neg_neg] at e3
  subst e3
  exact h (by decide +kernel)
section Loops
variable {p : Program} {l : Launch} {e : Env} {R : Room} {s : State} {m : MethodId} {args : Array Value} {below : List Frame} {meth : Method} {c : Code} {H : Heap} {locs : List Loc} {cells slots : Nat} {Q : State → Prop} {pc : Nat}
theorem loopR {σ : Type} (I : σ → Array Slot → Prop) (μ : σ → Nat) (step : ∀ (x : σ) (ls : Array Slot), I x ls → (∀ (y : σ) (ls' : Array Slot), I y ls' → μ y < μ x → W p l e R s m args below meth c H locs cells slots Q (F0 m pc ls' [])) → W p l e R s m args below meth c H locs cells slots Q (F0 m pc ls [])) (x : σ) (ls : Array Slot) (h : I x ls) : W p l e R s m args below meth c H locs cells slots Q (F0 m pc ls []) := by
  have key : ∀ (n : Nat) (x : σ) (ls : Array Slot), μ x < n → I x ls → W p l e R s m args below meth c H locs cells slots Q (F0 m pc ls []) := by
    intro n
    induction n with
    | zero => intro x ls h; exact absurd h (Nat.not_lt_zero _)
    | succ n ih => intro x ls h hI; exact step x ls hI (fun y ls' hy hlt => ih y ls' (by omega) hy)
  exact key _ x ls (Nat.lt_succ_self _) h
theorem loopW {σ : Type} (I : σ → Array Slot → Heap → List Loc → Prop) (μ : σ → Nat) (step : ∀ (x : σ) (ls : Array Slot) (H : Heap) (locs : List Loc), I x ls H locs → (∀ (y : σ) (ls' : Array Slot) (H' : Heap) (locs' : List Loc), I y ls' H' locs' → μ y < μ x → W p l e R s m args below meth c H' locs' cells slots Q (F0 m pc ls' [])) → W p l e R s m args below meth c H locs cells slots Q (F0 m pc ls [])) (x : σ) (ls : Array Slot) (h : I x ls H locs) : W p l e R s m args below meth c H locs cells slots Q (F0 m pc ls []) := by
  have key : ∀ (n : Nat) (x : σ) (ls : Array Slot) (H : Heap) (locs : List Loc), μ x < n → I x ls H locs → W p l e R s m args below meth c H locs cells slots Q (F0 m pc ls []) := by
    intro n
    induction n with
    | zero => intro x ls H locs h; exact absurd h (Nat.not_lt_zero _)
    | succ n ih => intro x ls H locs h hI; exact step x ls H locs hI (fun y ls' H' locs' hy hlt => ih y ls' H' locs' (by omega) hy)
  exact key _ x ls H locs (Nat.lt_succ_self _) h
end Loops
theorem tn {x : Int32} (h : 0 ≤ x.toInt) : (x.toNatClampNeg : Int) = x.toInt := by
  obtain ⟨j, hj, e⟩ := nI_of (x := x) (by rw [fa_lt, ti_0]; omega)
  subst e
  rw [nI_clamp hj, nI_toInt hj]
theorem dX12_within_0 : decode cX12_within 0 = .ok (.iload_n 0, 1) := by decide +kernel
theorem dX12_within_1 : decode cX12_within 1 = .ok (.iload_n 1, 1) := by decide +kernel
theorem dX12_within_10 : decode cX12_within 10 = .ok (.iconst 1, 1) := by decide +kernel
theorem dX12_within_11 : decode cX12_within 11 = .ok (.goto 4, 3) := by decide +kernel
theorem dX12_within_14 : decode cX12_within 14 = .ok (.iconst 0, 1) := by decide +kernel
theorem dX12_within_15 : decode cX12_within 15 = .ok (.ireturn, 1) := by decide +kernel
theorem dX12_within_2 : decode cX12_within 2 = .ok (.if_icmp .lt 12, 3) := by decide +kernel
theorem dX12_within_5 : decode cX12_within 5 = .ok (.iload_n 0, 1) := by decide +kernel
theorem dX12_within_6 : decode cX12_within 6 = .ok (.iload_n 2, 1) := by decide +kernel
theorem dX12_within_7 : decode cX12_within 7 = .ok (.if_icmp .gt 7, 3) := by decide +kernel
set_option maxHeartbeats 4000000 in
set_option maxRecDepth 100000 in
theorem c_X12_within (l : Launch) (D : va_G) (T : Nat → ClassId) (x0 : Int32) (x1 : Int32) (x2 : Int32) (LO : Int) (HI : Int) (hLO : x1.toInt = LO) (hHI : x2.toInt = HI) : Met l yX12_within wsX12_within ({ frames := 0, cells := 0, slots := 0, locals := 0 }) (pR [.int x0, .int x1, .int x2] D T []) (vp_Si (fun r => r = if LO ≤ x0.toInt ∧ x0.toInt ≤ HI then 1 else 0)) 0 0 (fun _ => False) := by
  refine Met.ofW (cc := cX12_within) (maxL := 3) (ret := (some .boolean)) (by decide +kernel) rfl ?_
  intro p e s m args below meth c s₁ B hml hv
  obtain ⟨rfl, hP, hE⟩ := hv
  have hx := B.exec
  have hb := B.bytes
  have hr := B.returns
  have hts := atoms_spec (ws := wsX12_within) B.pre
  have hown : s.vm.findClass RX12 = some m.cls := findClass_of_methodNamed B.named
  have hlocks := B.notSynchronized
  have hP : va_P D vwCl [] s.heap := hP
  have hl := lv_entry ([.int x0, .int x1, .int x2]) (n := 3) (Nat.le_of_ble_eq_true rfl)
  rw [lg_entry_eq]
  generalize (lg_sl ([.int x0, .int x1, .int x2]) ++ List.replicate (3 - (lg_sl ([.int x0, .int x1, .int x2])).length) Slot.unset).toArray = ls at hl ⊢
  have hl : lv_has ls 3 [(0, .int x0), (1, .int x1), (2, .int x2)] := hl
  refine lv_iload_n hx hb dX12_within_0 rfl (lv_at hl 0 rfl) ?_
  refine lv_iload_n hx hb dX12_within_1 rfl (lv_at hl 1 rfl) ?_
  refine lv_icmp_lt (tgt := 14) hx hb dX12_within_2 (by decide +kernel) (fun c_1 => ?_) (fun c_1 => ?_)
  · rw [fa_lt] at c_1
    refine lv_iconst (v := 0) hx hb dX12_within_14 (by decide +kernel) ?_
    exact W.zret hx hb hr rfl (fun t ht hW => ⟨_, rfl, (by exact (if_neg (by omega)).symm), ht⟩) (fun _ h => by cases h) dX12_within_15
  · rw [fa_lt] at c_1
    refine lv_iload_n hx hb dX12_within_5 rfl (lv_at hl 0 rfl) ?_
    refine lv_iload_n hx hb dX12_within_6 rfl (lv_at hl 2 rfl) ?_
    refine lv_icmp_gt (tgt := 14) hx hb dX12_within_7 (by decide +kernel) (fun c_2 => ?_) (fun c_2 => ?_)
    · rw [fa_lt] at c_2
      refine lv_iconst (v := 0) hx hb dX12_within_14 (by decide +kernel) ?_
      exact W.zret hx hb hr rfl (fun t ht hW => ⟨_, rfl, (by exact (if_neg (by omega)).symm), ht⟩) (fun _ h => by cases h) dX12_within_15
    · rw [fa_lt] at c_2
      refine lv_iconst (v := 1) hx hb dX12_within_10 (by decide +kernel) ?_
      refine lv_goto (tgt := 15) hx hb dX12_within_11 (by decide +kernel) ?_
      exact W.zret hx hb hr rfl (fun t ht hW => ⟨_, rfl, (by exact (if_pos (by omega)).symm), ht⟩) (fun _ h => by cases h) dX12_within_15
theorem dX12_isDay_0 : decode cX12_isDay 0 = .ok (.iload_n 0, 1) := by decide +kernel
theorem dX12_isDay_1 : decode cX12_isDay 1 = .ok (.iconst 0, 1) := by decide +kernel
theorem dX12_isDay_2 : decode cX12_isDay 2 = .ok (.bipush 6, 2) := by decide +kernel
theorem dX12_isDay_4 : decode cX12_isDay 4 = .ok (.invokestatic 77, 3) := by decide +kernel
theorem dX12_isDay_7 : decode cX12_isDay 7 = .ok (.ireturn, 1) := by decide +kernel
set_option maxRecDepth 20000 in
theorem ggX12_isDay_X12_within : GoodIn wsX12_isDay wsX12_within := goodIn_r _ [4] rfl (by decide +kernel)
set_option maxRecDepth 20000 in
theorem gX12_isDay_X12_within : GoodIn wsX12_isDay (va_wsS RX12 77 yX12_within wsX12_within) := goodIn_app (goodIn_of _ (by decide +kernel)) ggX12_isDay_X12_within
theorem hs_X12_within : yX12_within.cls ≠ "java/lang/invoke/MethodHandle" ∧ yX12_within.cls ≠ "java/lang/invoke/VarHandle" ∧ (parseMethodDescriptor yX12_within.desc).map (fun d => d.parameters.length) = some 3 := by decide +kernel
set_option maxHeartbeats 4000000 in
set_option maxRecDepth 100000 in
theorem c_X12_isDay (l : Launch) (D : va_G) (T : Nat → ClassId) (x0 : Int32)  : Met l yX12_isDay wsX12_isDay ({ frames := 1, cells := 0, slots := 0, locals := 22 }) (pR [.int x0] D T []) (vp_Si (fun r => r = if 0 ≤ x0.toInt ∧ x0.toInt ≤ 6 then 1 else 0)) 0 0 (fun _ => False) := by
  refine Met.ofW (cc := cX12_isDay) (maxL := 1) (ret := (some .boolean)) (by decide +kernel) rfl ?_
  intro p e s m args below meth c s₁ B hml hv
  obtain ⟨rfl, hP, hE⟩ := hv
  have hx := B.exec
  have hb := B.bytes
  have hr := B.returns
  have hts := atoms_spec (ws := wsX12_isDay) B.pre
  have hown : s.vm.findClass RX12 = some m.cls := findClass_of_methodNamed B.named
  have hlocks := B.notSynchronized
  have hP : va_P D vwCl [] s.heap := hP
  have hl := lv_entry ([.int x0]) (n := 1) (Nat.le_of_ble_eq_true rfl)
  rw [lg_entry_eq]
  generalize (lg_sl ([.int x0]) ++ List.replicate (1 - (lg_sl ([.int x0])).length) Slot.unset).toArray = ls at hl ⊢
  have hl : lv_has ls 1 [(0, .int x0)] := hl
  refine lv_iload_n hx hb dX12_isDay_0 rfl (lv_at hl 0 rfl) ?_
  refine lv_iconst (v := 0) hx hb dX12_isDay_1 (by decide +kernel) ?_
  refine lv_bipush (v := 6) hx hb dX12_isDay_2 (by decide +kernel) ?_
  refine vp_callSi (W.runS (As := [.int x0, .int 0, .int 6]) (rest := []) ⟨hx, hb, hml, hown, hts⟩ (c_X12_within l D T x0 0 6 0 6 (by decide +kernel) (by decide +kernel)) (va_cwS 3 hts gX12_isDay_X12_within rfl rfl rfl hs_X12_within ⟨Nat.le_of_ble_eq_true rfl, Nat.le_of_ble_eq_true rfl⟩) (pR_S hP hE [] rfl) rfl rfl hl.1 rfl (lv_room (Nat.le_of_ble_eq_true rfl)) dX12_isDay_4 ⟨Nat.le_of_ble_eq_true rfl, Nat.le_of_ble_eq_true rfl⟩) (fun r_1 hr_1 => ?_)
  rcases bool_post hr_1 with ⟨c_2, rfl⟩ | ⟨c_2, rfl⟩
  · exact W.zret hx hb hr rfl (fun t ht hW => ⟨_, rfl, (by exact (if_pos (by omega)).symm), ht⟩) (fun _ h => by cases h) dX12_isDay_7
  · exact W.zret hx hb hr rfl (fun t ht hW => ⟨_, rfl, (by exact (if_neg (by omega)).symm), ht⟩) (fun _ h => by cases h) dX12_isDay_7
theorem dX12_isPath_0 : decode cX12_isPath 0 = .ok (.iload_n 0, 1) := by decide +kernel
theorem dX12_isPath_1 : decode cX12_isPath 1 = .ok (.iconst 0, 1) := by decide +kernel
theorem dX12_isPath_2 : decode cX12_isPath 2 = .ok (.bipush 63, 2) := by decide +kernel
theorem dX12_isPath_4 : decode cX12_isPath 4 = .ok (.invokestatic 77, 3) := by decide +kernel
theorem dX12_isPath_7 : decode cX12_isPath 7 = .ok (.ireturn, 1) := by decide +kernel
set_option maxRecDepth 20000 in
theorem ggX12_isPath_X12_within : GoodIn wsX12_isPath wsX12_within := goodIn_r _ [4] rfl (by decide +kernel)
set_option maxRecDepth 20000 in
theorem gX12_isPath_X12_within : GoodIn wsX12_isPath (va_wsS RX12 77 yX12_within wsX12_within) := goodIn_app (goodIn_of _ (by decide +kernel)) ggX12_isPath_X12_within
set_option maxHeartbeats 4000000 in
set_option maxRecDepth 100000 in
theorem c_X12_isPath (l : Launch) (D : va_G) (T : Nat → ClassId) (x0 : Int32)  : Met l yX12_isPath wsX12_isPath ({ frames := 1, cells := 0, slots := 0, locals := 22 }) (pR [.int x0] D T []) (vp_Si (fun r => r = if 0 ≤ x0.toInt ∧ x0.toInt ≤ 63 then 1 else 0)) 0 0 (fun _ => False) := by
  refine Met.ofW (cc := cX12_isPath) (maxL := 1) (ret := (some .boolean)) (by decide +kernel) rfl ?_
  intro p e s m args below meth c s₁ B hml hv
  obtain ⟨rfl, hP, hE⟩ := hv
  have hx := B.exec
  have hb := B.bytes
  have hr := B.returns
  have hts := atoms_spec (ws := wsX12_isPath) B.pre
  have hown : s.vm.findClass RX12 = some m.cls := findClass_of_methodNamed B.named
  have hlocks := B.notSynchronized
  have hP : va_P D vwCl [] s.heap := hP
  have hl := lv_entry ([.int x0]) (n := 1) (Nat.le_of_ble_eq_true rfl)
  rw [lg_entry_eq]
  generalize (lg_sl ([.int x0]) ++ List.replicate (1 - (lg_sl ([.int x0])).length) Slot.unset).toArray = ls at hl ⊢
  have hl : lv_has ls 1 [(0, .int x0)] := hl
  refine lv_iload_n hx hb dX12_isPath_0 rfl (lv_at hl 0 rfl) ?_
  refine lv_iconst (v := 0) hx hb dX12_isPath_1 (by decide +kernel) ?_
  refine lv_bipush (v := 63) hx hb dX12_isPath_2 (by decide +kernel) ?_
  refine vp_callSi (W.runS (As := [.int x0, .int 0, .int 63]) (rest := []) ⟨hx, hb, hml, hown, hts⟩ (c_X12_within l D T x0 0 63 0 63 (by decide +kernel) (by decide +kernel)) (va_cwS 3 hts gX12_isPath_X12_within rfl rfl rfl hs_X12_within ⟨Nat.le_of_ble_eq_true rfl, Nat.le_of_ble_eq_true rfl⟩) (pR_S hP hE [] rfl) rfl rfl hl.1 rfl (lv_room (Nat.le_of_ble_eq_true rfl)) dX12_isPath_4 ⟨Nat.le_of_ble_eq_true rfl, Nat.le_of_ble_eq_true rfl⟩) (fun r_1 hr_1 => ?_)
  rcases bool_post hr_1 with ⟨c_2, rfl⟩ | ⟨c_2, rfl⟩
  · exact W.zret hx hb hr rfl (fun t ht hW => ⟨_, rfl, (by exact (if_pos (by omega)).symm), ht⟩) (fun _ h => by cases h) dX12_isPath_7
  · exact W.zret hx hb hr rfl (fun t ht hW => ⟨_, rfl, (by exact (if_neg (by omega)).symm), ht⟩) (fun _ h => by cases h) dX12_isPath_7
theorem dX12_isBag_0 : decode cX12_isBag 0 = .ok (.iload_n 0, 1) := by decide +kernel
theorem dX12_isBag_1 : decode cX12_isBag 1 = .ok (.iconst 0, 1) := by decide +kernel
theorem dX12_isBag_2 : decode cX12_isBag 2 = .ok (.iconst 2, 1) := by decide +kernel
theorem dX12_isBag_3 : decode cX12_isBag 3 = .ok (.invokestatic 77, 3) := by decide +kernel
theorem dX12_isBag_6 : decode cX12_isBag 6 = .ok (.ireturn, 1) := by decide +kernel
set_option maxRecDepth 20000 in
theorem ggX12_isBag_X12_within : GoodIn wsX12_isBag wsX12_within := goodIn_r _ [4] rfl (by decide +kernel)
set_option maxRecDepth 20000 in
theorem gX12_isBag_X12_within : GoodIn wsX12_isBag (va_wsS RX12 77 yX12_within wsX12_within) := goodIn_app (goodIn_of _ (by decide +kernel)) ggX12_isBag_X12_within
set_option maxHeartbeats 4000000 in
set_option maxRecDepth 100000 in
theorem c_X12_isBag (l : Launch) (D : va_G) (T : Nat → ClassId) (x0 : Int32)  : Met l yX12_isBag wsX12_isBag ({ frames := 1, cells := 0, slots := 0, locals := 22 }) (pR [.int x0] D T []) (vp_Si (fun r => r = if 0 ≤ x0.toInt ∧ x0.toInt ≤ 2 then 1 else 0)) 0 0 (fun _ => False) := by
  refine Met.ofW (cc := cX12_isBag) (maxL := 1) (ret := (some .boolean)) (by decide +kernel) rfl ?_
  intro p e s m args below meth c s₁ B hml hv
  obtain ⟨rfl, hP, hE⟩ := hv
  have hx := B.exec
  have hb := B.bytes
  have hr := B.returns
  have hts := atoms_spec (ws := wsX12_isBag) B.pre
  have hown : s.vm.findClass RX12 = some m.cls := findClass_of_methodNamed B.named
  have hlocks := B.notSynchronized
  have hP : va_P D vwCl [] s.heap := hP
  have hl := lv_entry ([.int x0]) (n := 1) (Nat.le_of_ble_eq_true rfl)
  rw [lg_entry_eq]
  generalize (lg_sl ([.int x0]) ++ List.replicate (1 - (lg_sl ([.int x0])).length) Slot.unset).toArray = ls at hl ⊢
  have hl : lv_has ls 1 [(0, .int x0)] := hl
  refine lv_iload_n hx hb dX12_isBag_0 rfl (lv_at hl 0 rfl) ?_
  refine lv_iconst (v := 0) hx hb dX12_isBag_1 (by decide +kernel) ?_
  refine lv_iconst (v := 2) hx hb dX12_isBag_2 (by decide +kernel) ?_
  refine vp_callSi (W.runS (As := [.int x0, .int 0, .int 2]) (rest := []) ⟨hx, hb, hml, hown, hts⟩ (c_X12_within l D T x0 0 2 0 2 (by decide +kernel) (by decide +kernel)) (va_cwS 3 hts gX12_isBag_X12_within rfl rfl rfl hs_X12_within ⟨Nat.le_of_ble_eq_true rfl, Nat.le_of_ble_eq_true rfl⟩) (pR_S hP hE [] rfl) rfl rfl hl.1 rfl (lv_room (Nat.le_of_ble_eq_true rfl)) dX12_isBag_3 ⟨Nat.le_of_ble_eq_true rfl, Nat.le_of_ble_eq_true rfl⟩) (fun r_1 hr_1 => ?_)
  rcases bool_post hr_1 with ⟨c_2, rfl⟩ | ⟨c_2, rfl⟩
  · exact W.zret hx hb hr rfl (fun t ht hW => ⟨_, rfl, (by exact (if_pos (by omega)).symm), ht⟩) (fun _ h => by cases h) dX12_isBag_6
  · exact W.zret hx hb hr rfl (fun t ht hW => ⟨_, rfl, (by exact (if_neg (by omega)).symm), ht⟩) (fun _ h => by cases h) dX12_isBag_6
theorem dX12_isHand_0 : decode cX12_isHand 0 = .ok (.iload_n 0, 1) := by decide +kernel
theorem dX12_isHand_1 : decode cX12_isHand 1 = .ok (.iconst 0, 1) := by decide +kernel
theorem dX12_isHand_2 : decode cX12_isHand 2 = .ok (.iconst 3, 1) := by decide +kernel
theorem dX12_isHand_3 : decode cX12_isHand 3 = .ok (.invokestatic 77, 3) := by decide +kernel
theorem dX12_isHand_6 : decode cX12_isHand 6 = .ok (.ireturn, 1) := by decide +kernel
set_option maxRecDepth 20000 in
theorem ggX12_isHand_X12_within : GoodIn wsX12_isHand wsX12_within := goodIn_r _ [4] rfl (by decide +kernel)
set_option maxRecDepth 20000 in
theorem gX12_isHand_X12_within : GoodIn wsX12_isHand (va_wsS RX12 77 yX12_within wsX12_within) := goodIn_app (goodIn_of _ (by decide +kernel)) ggX12_isHand_X12_within
set_option maxHeartbeats 4000000 in
set_option maxRecDepth 100000 in
theorem c_X12_isHand (l : Launch) (D : va_G) (T : Nat → ClassId) (x0 : Int32)  : Met l yX12_isHand wsX12_isHand ({ frames := 1, cells := 0, slots := 0, locals := 22 }) (pR [.int x0] D T []) (vp_Si (fun r => r = if 0 ≤ x0.toInt ∧ x0.toInt ≤ 3 then 1 else 0)) 0 0 (fun _ => False) := by
  refine Met.ofW (cc := cX12_isHand) (maxL := 1) (ret := (some .boolean)) (by decide +kernel) rfl ?_
  intro p e s m args below meth c s₁ B hml hv
  obtain ⟨rfl, hP, hE⟩ := hv
  have hx := B.exec
  have hb := B.bytes
  have hr := B.returns
  have hts := atoms_spec (ws := wsX12_isHand) B.pre
  have hown : s.vm.findClass RX12 = some m.cls := findClass_of_methodNamed B.named
  have hlocks := B.notSynchronized
  have hP : va_P D vwCl [] s.heap := hP
  have hl := lv_entry ([.int x0]) (n := 1) (Nat.le_of_ble_eq_true rfl)
  rw [lg_entry_eq]
  generalize (lg_sl ([.int x0]) ++ List.replicate (1 - (lg_sl ([.int x0])).length) Slot.unset).toArray = ls at hl ⊢
  have hl : lv_has ls 1 [(0, .int x0)] := hl
  refine lv_iload_n hx hb dX12_isHand_0 rfl (lv_at hl 0 rfl) ?_
  refine lv_iconst (v := 0) hx hb dX12_isHand_1 (by decide +kernel) ?_
  refine lv_iconst (v := 3) hx hb dX12_isHand_2 (by decide +kernel) ?_
  refine vp_callSi (W.runS (As := [.int x0, .int 0, .int 3]) (rest := []) ⟨hx, hb, hml, hown, hts⟩ (c_X12_within l D T x0 0 3 0 3 (by decide +kernel) (by decide +kernel)) (va_cwS 3 hts gX12_isHand_X12_within rfl rfl rfl hs_X12_within ⟨Nat.le_of_ble_eq_true rfl, Nat.le_of_ble_eq_true rfl⟩) (pR_S hP hE [] rfl) rfl rfl hl.1 rfl (lv_room (Nat.le_of_ble_eq_true rfl)) dX12_isHand_3 ⟨Nat.le_of_ble_eq_true rfl, Nat.le_of_ble_eq_true rfl⟩) (fun r_1 hr_1 => ?_)
  rcases bool_post hr_1 with ⟨c_2, rfl⟩ | ⟨c_2, rfl⟩
  · exact W.zret hx hb hr rfl (fun t ht hW => ⟨_, rfl, (by exact (if_pos (by omega)).symm), ht⟩) (fun _ h => by cases h) dX12_isHand_6
  · exact W.zret hx hb hr rfl (fun t ht hW => ⟨_, rfl, (by exact (if_neg (by omega)).symm), ht⟩) (fun _ h => by cases h) dX12_isHand_6
theorem dX12_isSpot_0 : decode cX12_isSpot 0 = .ok (.iload_n 0, 1) := by decide +kernel
theorem dX12_isSpot_1 : decode cX12_isSpot 1 = .ok (.invokestatic 120, 3) := by decide +kernel
theorem dX12_isSpot_10 : decode cX12_isSpot 10 = .ok (.invokestatic 77, 3) := by decide +kernel
theorem dX12_isSpot_13 : decode cX12_isSpot 13 = .ok (.ifCond .eq 7, 3) := by decide +kernel
theorem dX12_isSpot_16 : decode cX12_isSpot 16 = .ok (.iconst 1, 1) := by decide +kernel
theorem dX12_isSpot_17 : decode cX12_isSpot 17 = .ok (.goto 4, 3) := by decide +kernel
theorem dX12_isSpot_20 : decode cX12_isSpot 20 = .ok (.iconst 0, 1) := by decide +kernel
theorem dX12_isSpot_21 : decode cX12_isSpot 21 = .ok (.ireturn, 1) := by decide +kernel
theorem dX12_isSpot_4 : decode cX12_isSpot 4 = .ok (.ifCond .eq 16, 3) := by decide +kernel
theorem dX12_isSpot_7 : decode cX12_isSpot 7 = .ok (.iload_n 1, 1) := by decide +kernel
theorem dX12_isSpot_8 : decode cX12_isSpot 8 = .ok (.iconst 0, 1) := by decide +kernel
theorem dX12_isSpot_9 : decode cX12_isSpot 9 = .ok (.iload_n 0, 1) := by decide +kernel
set_option maxRecDepth 20000 in
theorem ggX12_isSpot_X12_isDay : GoodIn wsX12_isSpot wsX12_isDay := goodIn_r _ [4, 5, 6, 3, 7] rfl (by decide +kernel)
set_option maxRecDepth 20000 in
theorem ggX12_isSpot_X12_within : GoodIn wsX12_isSpot wsX12_within := goodIn_r _ [7] rfl (by decide +kernel)
set_option maxRecDepth 20000 in
theorem gX12_isSpot_X12_isDay : GoodIn wsX12_isSpot (va_wsS RX12 120 yX12_isDay wsX12_isDay) := goodIn_app (goodIn_of _ (by decide +kernel)) ggX12_isSpot_X12_isDay
set_option maxRecDepth 20000 in
theorem gX12_isSpot_X12_within : GoodIn wsX12_isSpot (va_wsS RX12 77 yX12_within wsX12_within) := goodIn_app (goodIn_of _ (by decide +kernel)) ggX12_isSpot_X12_within
theorem hs_X12_isDay : yX12_isDay.cls ≠ "java/lang/invoke/MethodHandle" ∧ yX12_isDay.cls ≠ "java/lang/invoke/VarHandle" ∧ (parseMethodDescriptor yX12_isDay.desc).map (fun d => d.parameters.length) = some 1 := by decide +kernel
set_option maxHeartbeats 4000000 in
set_option maxRecDepth 100000 in
theorem c_X12_isSpot (l : Launch) (D : va_G) (T : Nat → ClassId) (x0 : Int32) (x1 : Int32)  : Met l yX12_isSpot wsX12_isSpot ({ frames := 2, cells := 0, slots := 0, locals := 42 }) (pR [.int x0, .int x1] D T []) (vp_Si (fun r => r = if (0 ≤ x0.toInt ∧ x0.toInt ≤ 6) ∧ 0 ≤ x1.toInt ∧ x1.toInt ≤ x0.toInt then 1 else 0)) 0 0 (fun _ => False) := by
  refine Met.ofW (cc := cX12_isSpot) (maxL := 2) (ret := (some .boolean)) (by decide +kernel) rfl ?_
  intro p e s m args below meth c s₁ B hml hv
  obtain ⟨rfl, hP, hE⟩ := hv
  have hx := B.exec
  have hb := B.bytes
  have hr := B.returns
  have hts := atoms_spec (ws := wsX12_isSpot) B.pre
  have hown : s.vm.findClass RX12 = some m.cls := findClass_of_methodNamed B.named
  have hlocks := B.notSynchronized
  have hP : va_P D vwCl [] s.heap := hP
  have hl := lv_entry ([.int x0, .int x1]) (n := 2) (Nat.le_of_ble_eq_true rfl)
  rw [lg_entry_eq]
  generalize (lg_sl ([.int x0, .int x1]) ++ List.replicate (2 - (lg_sl ([.int x0, .int x1])).length) Slot.unset).toArray = ls at hl ⊢
  have hl : lv_has ls 2 [(0, .int x0), (1, .int x1)] := hl
  refine lv_iload_n hx hb dX12_isSpot_0 rfl (lv_at hl 0 rfl) ?_
  refine vp_callSi (W.runS (As := [.int x0]) (rest := []) ⟨hx, hb, hml, hown, hts⟩ (c_X12_isDay l D T x0) (va_cwS 1 hts gX12_isSpot_X12_isDay rfl rfl rfl hs_X12_isDay ⟨Nat.le_of_ble_eq_true rfl, Nat.le_of_ble_eq_true rfl⟩) (pR_S hP hE [] rfl) rfl rfl hl.1 rfl (lv_room (Nat.le_of_ble_eq_true rfl)) dX12_isSpot_1 ⟨Nat.le_of_ble_eq_true rfl, Nat.le_of_ble_eq_true rfl⟩) (fun r_1 hr_1 => ?_)
  rcases bool_post hr_1 with ⟨c_2, rfl⟩ | ⟨c_2, rfl⟩
  · refine lv_if_eq (tgt := 20) hx hb dX12_isSpot_4 (by decide +kernel) (fun c9 => absurd c9 (by decide +kernel)) (fun _ => ?_)
    refine lv_iload_n hx hb dX12_isSpot_7 rfl (lv_at hl 1 rfl) ?_
    refine lv_iconst (v := 0) hx hb dX12_isSpot_8 (by decide +kernel) ?_
    refine lv_iload_n hx hb dX12_isSpot_9 rfl (lv_at hl 0 rfl) ?_
    refine vp_callSi (W.runS (As := [.int x1, .int 0, .int x0]) (rest := []) ⟨hx, hb, hml, hown, hts⟩ (c_X12_within l D T x1 0 x0 0 x0.toInt (by decide +kernel) rfl) (va_cwS 3 hts gX12_isSpot_X12_within rfl rfl rfl hs_X12_within ⟨Nat.le_of_ble_eq_true rfl, Nat.le_of_ble_eq_true rfl⟩) (pR_S hP hE [] rfl) rfl rfl hl.1 rfl (lv_room (Nat.le_of_ble_eq_true rfl)) dX12_isSpot_10 ⟨Nat.le_of_ble_eq_true rfl, Nat.le_of_ble_eq_true rfl⟩) (fun r_3 hr_3 => ?_)
    rcases bool_post hr_3 with ⟨c_4, rfl⟩ | ⟨c_4, rfl⟩
    · refine lv_if_eq (tgt := 20) hx hb dX12_isSpot_13 (by decide +kernel) (fun c9 => absurd c9 (by decide +kernel)) (fun _ => ?_)
      refine lv_iconst (v := 1) hx hb dX12_isSpot_16 (by decide +kernel) ?_
      refine lv_goto (tgt := 21) hx hb dX12_isSpot_17 (by decide +kernel) ?_
      exact W.zret hx hb hr rfl (fun t ht hW => ⟨_, rfl, (by exact (if_pos (by omega)).symm), ht⟩) (fun _ h => by cases h) dX12_isSpot_21
    · refine lv_if_eq (tgt := 20) hx hb dX12_isSpot_13 (by decide +kernel) (fun _ => ?_) (fun c9 => absurd c9 (by decide +kernel))
      refine lv_iconst (v := 0) hx hb dX12_isSpot_20 (by decide +kernel) ?_
      exact W.zret hx hb hr rfl (fun t ht hW => ⟨_, rfl, (by exact (if_neg (by omega)).symm), ht⟩) (fun _ h => by cases h) dX12_isSpot_21
  · refine lv_if_eq (tgt := 20) hx hb dX12_isSpot_4 (by decide +kernel) (fun _ => ?_) (fun c9 => absurd c9 (by decide +kernel))
    refine lv_iconst (v := 0) hx hb dX12_isSpot_20 (by decide +kernel) ?_
    exact W.zret hx hb hr rfl (fun t ht hW => ⟨_, rfl, (by exact (if_neg (by omega)).symm), ht⟩) (fun _ h => by cases h) dX12_isSpot_21
theorem dX2_has_0 : decode cX2_has 0 = .ok (.iload_n 1, 1) := by decide +kernel
theorem dX2_has_1 : decode cX2_has 1 = .ok (.iconst 0, 1) := by decide +kernel
theorem dX2_has_11 : decode cX2_has 11 = .ok (.ireturn, 1) := by decide +kernel
theorem dX2_has_2 : decode cX2_has 2 = .ok (.aload_n 0, 1) := by decide +kernel
theorem dX2_has_3 : decode cX2_has 3 = .ok (.getfield 9, 3) := by decide +kernel
theorem dX2_has_6 : decode cX2_has 6 = .ok (.iconst 1, 1) := by decide +kernel
theorem dX2_has_7 : decode cX2_has 7 = .ok (.isub, 1) := by decide +kernel
theorem dX2_has_8 : decode cX2_has 8 = .ok (.invokestatic 37, 3) := by decide +kernel
set_option maxRecDepth 20000 in
theorem ggX2_has_X12_within : GoodIn wsX2_has wsX12_within := goodIn_r _ [4] rfl (by decide +kernel)
set_option maxRecDepth 20000 in
theorem gX2_has_X12_within_n37 : GoodIn wsX2_has (wsX12_within) := ggX2_has_X12_within
set_option maxRecDepth 20000 in
theorem in_X2_has_X2 : ∀ w ∈ wsX20, w ∈ wsX2_has := sub_r [5, 6, 7, 8, 9, 10, 11, 12] rfl
set_option maxHeartbeats 4000000 in
set_option maxRecDepth 100000 in
theorem c_X2_has (l : Launch) (D : va_G) (T : Nat → ClassId) (h0 : Nat) (fs0 : List Value) (x1 : Int32) (n : Int32) (e0_0 : fs0[0]? = some (.int n)) (hn0 : 0 ≤ n.toInt) : Met l yX2_has wsX2_has ({ frames := 1, cells := 0, slots := 0, locals := 22 }) (pR [.ref h0, .int x1] D T [(h0, .inr (1, fs0))]) (vp_Si (fun r => r = if 0 ≤ x1.toInt ∧ x1.toInt ≤ n.toInt - 1 then 1 else 0)) 0 0 (fun _ => False) := by
  refine Met.ofW (cc := cX2_has) (maxL := 2) (ret := (some .boolean)) (by decide +kernel) rfl ?_
  intro p e s m args below meth c s₁ B hml hv
  obtain ⟨rfl, hP, hE⟩ := hv
  have hx := B.exec
  have hb := B.bytes
  have hr := B.returns
  have hts := atoms_spec (ws := wsX2_has) B.pre
  have hown : s.vm.findClass RX2 = some m.cls := findClass_of_methodNamed B.named
  have hlocks := B.notSynchronized
  have hP : va_P D vwCl [(h0, .inr (1, fs0))] s.heap := hP
  have hl := lv_entry ([.ref h0, .int x1]) (n := 2) (Nat.le_of_ble_eq_true rfl)
  rw [lg_entry_eq]
  generalize (lg_sl ([.ref h0, .int x1]) ++ List.replicate (2 - (lg_sl ([.ref h0, .int x1])).length) Slot.unset).toArray = ls at hl ⊢
  have hl : lv_has ls 2 [(0, .ref h0), (1, .int x1)] := hl
  have hd1 := dec1 (i := n) (by omega)
  refine lv_iload_n hx hb dX2_has_0 rfl (lv_at hl 1 rfl) ?_
  refine lv_iconst (v := 0) hx hb dX2_has_1 (by decide +kernel) ?_
  refine lv_aload_n hx hb dX2_has_2 rfl (lv_at hl 0 rfl) ?_
  refine va_get (D := D) (ci := 1) (v := .int n) (C := RX2) (T := TX2) (N := 8) hx hb hts in_X2_has_X2 hown hE.1 hP 0 rfl rfl 0 (by decide +kernel) (hts (.fieldLink RX2 9 "ClauseBook$Clauses" "size" "I") (List.mem_of_getElem? (i := 1) rfl)) (fun _ h9 => h9) e0_0 dX2_has_3 ?_
  refine lv_iconst (v := 1) hx hb dX2_has_6 (by decide +kernel) ?_
  refine lv_isub hx hb dX2_has_7 ?_
  refine vp_callSi (va_Run.run (va_runSN (As := [.int x1, .int 0, .int (n - 1)]) (rest := []) ⟨hx, hb, hml, hown, hts⟩ (c_X12_within l D T x1 0 (n - 1) 0 ((n - 1)).toInt (by decide +kernel) rfl) ⟨(va_cnB 3 hts gX2_has_X12_within_n37 rfl rfl rfl (hE.2.1 (RX2, 37, yX12_within) (List.mem_of_getElem? (i := 7) rfl)) (hts (.initialized RX12) (List.mem_of_getElem? (i := 3) rfl)) hs_X12_within ⟨Nat.le_of_ble_eq_true rfl, Nat.le_of_ble_eq_true rfl⟩), (hts (.static yX12_within) (List.mem_of_getElem? (i := 2) rfl)), trivial⟩ (pR_S hP hE [] rfl) rfl rfl hl.1 rfl (lv_room (Nat.le_of_ble_eq_true rfl)) dX2_has_8 ⟨Nat.le_of_ble_eq_true rfl, Nat.le_of_ble_eq_true rfl⟩)) (fun r_1 hr_1 => ?_)
  rcases bool_post hr_1 with ⟨c_2, rfl⟩ | ⟨c_2, rfl⟩
  · exact W.zret hx hb hr rfl (fun t ht hW => ⟨_, rfl, (by exact (if_pos (by omega)).symm), ht⟩) (fun _ h => by cases h) dX2_has_11
  · exact W.zret hx hb hr rfl (fun t ht hW => ⟨_, rfl, (by exact (if_neg (by omega)).symm), ht⟩) (fun _ h => by cases h) dX2_has_11
theorem dX12_isHad_0 : decode cX12_isHad 0 = .ok (.aload_n 0, 1) := by decide +kernel
theorem dX12_isHad_1 : decode cX12_isHad 1 = .ok (.getfield 32, 3) := by decide +kernel
theorem dX12_isHad_11 : decode cX12_isHad 11 = .ok (.iload_n 2, 1) := by decide +kernel
theorem dX12_isHad_12 : decode cX12_isHad 12 = .ok (.invokestatic 120, 3) := by decide +kernel
theorem dX12_isHad_15 : decode cX12_isHad 15 = .ok (.ifCond .eq 14, 3) := by decide +kernel
theorem dX12_isHad_18 : decode cX12_isHad 18 = .ok (.iload_n 3, 1) := by decide +kernel
theorem dX12_isHad_19 : decode cX12_isHad 19 = .ok (.invokestatic 116, 3) := by decide +kernel
theorem dX12_isHad_22 : decode cX12_isHad 22 = .ok (.ifCond .eq 7, 3) := by decide +kernel
theorem dX12_isHad_25 : decode cX12_isHad 25 = .ok (.iconst 1, 1) := by decide +kernel
theorem dX12_isHad_26 : decode cX12_isHad 26 = .ok (.goto 4, 3) := by decide +kernel
theorem dX12_isHad_29 : decode cX12_isHad 29 = .ok (.iconst 0, 1) := by decide +kernel
theorem dX12_isHad_30 : decode cX12_isHad 30 = .ok (.ireturn, 1) := by decide +kernel
theorem dX12_isHad_4 : decode cX12_isHad 4 = .ok (.iload_n 1, 1) := by decide +kernel
theorem dX12_isHad_5 : decode cX12_isHad 5 = .ok (.invokevirtual 150, 3) := by decide +kernel
theorem dX12_isHad_8 : decode cX12_isHad 8 = .ok (.ifCond .eq 21, 3) := by decide +kernel
set_option maxRecDepth 20000 in
theorem ggX12_isHad_X12_isDay : GoodIn wsX12_isHad wsX12_isDay := goodIn_r _ [13, 14, 8, 9, 10] rfl (by decide +kernel)
set_option maxRecDepth 20000 in
theorem ggX12_isHad_X12_isPath : GoodIn wsX12_isHad wsX12_isPath := goodIn_r _ [17, 14, 8, 9, 10] rfl (by decide +kernel)
set_option maxRecDepth 20000 in
theorem ggX12_isHad_X2_has : GoodIn wsX12_isHad wsX2_has := goodIn_r _ [6, 7, 8, 9, 10, 29, 30, 31, 32, 33, 34, 35, 36] rfl (by decide +kernel)
set_option maxRecDepth 20000 in
theorem gX12_isHad_X12_isDay : GoodIn wsX12_isHad (va_wsS RX12 120 yX12_isDay wsX12_isDay) := goodIn_app (goodIn_of _ (by decide +kernel)) ggX12_isHad_X12_isDay
set_option maxRecDepth 20000 in
theorem gX12_isHad_X12_isPath : GoodIn wsX12_isHad (va_wsS RX12 116 yX12_isPath wsX12_isPath) := goodIn_app (goodIn_of _ (by decide +kernel)) ggX12_isHad_X12_isPath
set_option maxRecDepth 20000 in
theorem gX12_isHad_X2_has : GoodIn wsX12_isHad (wsV RX12 150 RX2 yX2_has wsX2_has) := goodIn_app (goodIn_r _ [2, 3, 4, 5] rfl (by decide +kernel)) ggX12_isHad_X2_has
theorem hs_X12_isPath : yX12_isPath.cls ≠ "java/lang/invoke/MethodHandle" ∧ yX12_isPath.cls ≠ "java/lang/invoke/VarHandle" ∧ (parseMethodDescriptor yX12_isPath.desc).map (fun d => d.parameters.length) = some 1 := by decide +kernel
theorem hv_X2_has : yX2_has.cls = RX2 ∧ yX2_has.cls ≠ "java/lang/invoke/MethodHandle" ∧ yX2_has.cls ≠ "java/lang/invoke/VarHandle" ∧ (parseMethodDescriptor yX2_has.desc).map (fun d => d.parameters.length) = some 1 := by decide +kernel
set_option maxRecDepth 20000 in
theorem in_X12_isHad_X12 : ∀ w ∈ wsX120, w ∈ wsX12_isHad := sub_r [18, 19, 20, 21, 22, 23, 24, 25, 26, 27, 28] rfl
set_option maxHeartbeats 4000000 in
set_option maxRecDepth 100000 in
theorem c_X12_isHad (l : Launch) (D : va_G) (T : Nat → ClassId) (h0 : Nat) (fs0 : List Value) (h1 : Nat) (fs1 : List Value) (x1 : Int32) (x2 : Int32) (x3 : Int32) (n : Int32) (e0_4 : fs0[4]? = some (.ref h1)) (e1_0 : fs1[0]? = some (.int n)) (hn0 : 0 ≤ n.toInt) : Met l yX12_isHad wsX12_isHad ({ frames := 2, cells := 0, slots := 0, locals := 43 }) (pR [.ref h0, .int x1, .int x2, .int x3] D T [(h0, .inr (9, fs0)), (h1, .inr (1, fs1))]) (vp_Si (fun r => r = if (0 ≤ x1.toInt ∧ x1.toInt ≤ n.toInt - 1) ∧ (0 ≤ x2.toInt ∧ x2.toInt ≤ 6) ∧ 0 ≤ x3.toInt ∧ x3.toInt ≤ 63 then 1 else 0)) 0 0 (fun _ => False) := by
  refine Met.ofW (cc := cX12_isHad) (maxL := 4) (ret := (some .boolean)) (by decide +kernel) rfl ?_
  intro p e s m args below meth c s₁ B hml hv
  obtain ⟨rfl, hP, hE⟩ := hv
  have hx := B.exec
  have hb := B.bytes
  have hr := B.returns
  have hts := atoms_spec (ws := wsX12_isHad) B.pre
  have hown : s.vm.findClass RX12 = some m.cls := findClass_of_methodNamed B.named
  have hlocks := B.notSynchronized
  have hP : va_P D vwCl [(h0, .inr (9, fs0)), (h1, .inr (1, fs1))] s.heap := hP
  have hl := lv_entry ([.ref h0, .int x1, .int x2, .int x3]) (n := 4) (Nat.le_of_ble_eq_true rfl)
  rw [lg_entry_eq]
  generalize (lg_sl ([.ref h0, .int x1, .int x2, .int x3]) ++ List.replicate (4 - (lg_sl ([.ref h0, .int x1, .int x2, .int x3])).length) Slot.unset).toArray = ls at hl ⊢
  have hl : lv_has ls 4 [(0, .ref h0), (1, .int x1), (2, .int x2), (3, .int x3)] := hl
  refine lv_aload_n hx hb dX12_isHad_0 rfl (lv_at hl 0 rfl) ?_
  refine va_get (D := D) (ci := 9) (v := .ref h1) (C := RX12) (T := TX12) (N := 11) hx hb hts in_X12_isHad_X12 hown hE.1 hP 0 rfl rfl 4 (by decide +kernel) (hts (.fieldLink RX12 32 "ClauseBook" "clauses" "LClauseBook$Clauses;") (List.mem_of_getElem? (i := 1) rfl)) (fun _ h9 => h9) e0_4 dX12_isHad_1 ?_
  refine lv_iload_n hx hb dX12_isHad_4 rfl (lv_at hl 1 rfl) ?_
  refine vp_callSi (W.runV (As := [.int x1]) (rest := []) ⟨hx, hb, hml, hown, hts⟩ (c_X2_has l D T h1 fs1 x1 n e1_0 (by omega)) (cwV 1 hts gX12_isHad_X2_has rfl rfl rfl hv_X2_has ⟨Nat.le_of_ble_eq_true rfl, Nat.le_of_ble_eq_true rfl⟩) (pR_V (q := (RX2, TX2, 8)) (ci := 1) (q0 := 1) hP hE rfl rfl [1] rfl) rfl rfl hl.1 rfl (lv_room (Nat.le_of_ble_eq_true rfl)) dX12_isHad_5 ⟨Nat.le_of_ble_eq_true rfl, Nat.le_of_ble_eq_true rfl⟩) (fun r_1 hr_1 => ?_)
  rcases bool_post hr_1 with ⟨c_2, rfl⟩ | ⟨c_2, rfl⟩
  · refine lv_if_eq (tgt := 29) hx hb dX12_isHad_8 (by decide +kernel) (fun c9 => absurd c9 (by decide +kernel)) (fun _ => ?_)
    refine lv_iload_n hx hb dX12_isHad_11 rfl (lv_at hl 2 rfl) ?_
    refine vp_callSi (W.runS (As := [.int x2]) (rest := []) ⟨hx, hb, hml, hown, hts⟩ (c_X12_isDay l D T x2) (va_cwS 1 hts gX12_isHad_X12_isDay rfl rfl rfl hs_X12_isDay ⟨Nat.le_of_ble_eq_true rfl, Nat.le_of_ble_eq_true rfl⟩) (pR_S hP hE [] rfl) rfl rfl hl.1 rfl (lv_room (Nat.le_of_ble_eq_true rfl)) dX12_isHad_12 ⟨Nat.le_of_ble_eq_true rfl, Nat.le_of_ble_eq_true rfl⟩) (fun r_3 hr_3 => ?_)
    rcases bool_post hr_3 with ⟨c_4, rfl⟩ | ⟨c_4, rfl⟩
    · refine lv_if_eq (tgt := 29) hx hb dX12_isHad_15 (by decide +kernel) (fun c9 => absurd c9 (by decide +kernel)) (fun _ => ?_)
      refine lv_iload_n hx hb dX12_isHad_18 rfl (lv_at hl 3 rfl) ?_
      refine vp_callSi (W.runS (As := [.int x3]) (rest := []) ⟨hx, hb, hml, hown, hts⟩ (c_X12_isPath l D T x3) (va_cwS 1 hts gX12_isHad_X12_isPath rfl rfl rfl hs_X12_isPath ⟨Nat.le_of_ble_eq_true rfl, Nat.le_of_ble_eq_true rfl⟩) (pR_S hP hE [] rfl) rfl rfl hl.1 rfl (lv_room (Nat.le_of_ble_eq_true rfl)) dX12_isHad_19 ⟨Nat.le_of_ble_eq_true rfl, Nat.le_of_ble_eq_true rfl⟩) (fun r_5 hr_5 => ?_)
      rcases bool_post hr_5 with ⟨c_6, rfl⟩ | ⟨c_6, rfl⟩
      · refine lv_if_eq (tgt := 29) hx hb dX12_isHad_22 (by decide +kernel) (fun c9 => absurd c9 (by decide +kernel)) (fun _ => ?_)
        refine lv_iconst (v := 1) hx hb dX12_isHad_25 (by decide +kernel) ?_
        refine lv_goto (tgt := 30) hx hb dX12_isHad_26 (by decide +kernel) ?_
        exact W.zret hx hb hr rfl (fun t ht hW => ⟨_, rfl, (by exact (if_pos (by omega)).symm), ht⟩) (fun _ h => by cases h) dX12_isHad_30
      · refine lv_if_eq (tgt := 29) hx hb dX12_isHad_22 (by decide +kernel) (fun _ => ?_) (fun c9 => absurd c9 (by decide +kernel))
        refine lv_iconst (v := 0) hx hb dX12_isHad_29 (by decide +kernel) ?_
        exact W.zret hx hb hr rfl (fun t ht hW => ⟨_, rfl, (by exact (if_neg (by omega)).symm), ht⟩) (fun _ h => by cases h) dX12_isHad_30
    · refine lv_if_eq (tgt := 29) hx hb dX12_isHad_15 (by decide +kernel) (fun _ => ?_) (fun c9 => absurd c9 (by decide +kernel))
      refine lv_iconst (v := 0) hx hb dX12_isHad_29 (by decide +kernel) ?_
      exact W.zret hx hb hr rfl (fun t ht hW => ⟨_, rfl, (by exact (if_neg (by omega)).symm), ht⟩) (fun _ h => by cases h) dX12_isHad_30
  · refine lv_if_eq (tgt := 29) hx hb dX12_isHad_8 (by decide +kernel) (fun _ => ?_) (fun c9 => absurd c9 (by decide +kernel))
    refine lv_iconst (v := 0) hx hb dX12_isHad_29 (by decide +kernel) ?_
    exact W.zret hx hb hr rfl (fun t ht hW => ⟨_, rfl, (by exact (if_neg (by omega)).symm), ht⟩) (fun _ h => by cases h) dX12_isHad_30
theorem dX8_priceAt_0 : decode cX8_priceAt 0 = .ok (.aload_n 0, 1) := by decide +kernel
theorem dX8_priceAt_1 : decode cX8_priceAt 1 = .ok (.getfield 7, 3) := by decide +kernel
theorem dX8_priceAt_10 : decode cX8_priceAt 10 = .ok (.iadd, 1) := by decide +kernel
theorem dX8_priceAt_11 : decode cX8_priceAt 11 = .ok (.aload_n 0, 1) := by decide +kernel
theorem dX8_priceAt_12 : decode cX8_priceAt 12 = .ok (.getfield 16, 3) := by decide +kernel
theorem dX8_priceAt_15 : decode cX8_priceAt 15 = .ok (.iload_n 1, 1) := by decide +kernel
theorem dX8_priceAt_16 : decode cX8_priceAt 16 = .ok (.iload_n 2, 1) := by decide +kernel
theorem dX8_priceAt_17 : decode cX8_priceAt 17 = .ok (.isub, 1) := by decide +kernel
theorem dX8_priceAt_18 : decode cX8_priceAt 18 = .ok (.imul, 1) := by decide +kernel
theorem dX8_priceAt_19 : decode cX8_priceAt 19 = .ok (.isub, 1) := by decide +kernel
theorem dX8_priceAt_20 : decode cX8_priceAt 20 = .ok (.ireturn, 1) := by decide +kernel
theorem dX8_priceAt_4 : decode cX8_priceAt 4 = .ok (.aload_n 0, 1) := by decide +kernel
theorem dX8_priceAt_5 : decode cX8_priceAt 5 = .ok (.getfield 13, 3) := by decide +kernel
theorem dX8_priceAt_8 : decode cX8_priceAt 8 = .ok (.iload_n 2, 1) := by decide +kernel
theorem dX8_priceAt_9 : decode cX8_priceAt 9 = .ok (.imul, 1) := by decide +kernel
set_option maxRecDepth 20000 in
theorem in_X8_priceAt_X8 : ∀ w ∈ wsX80, w ∈ wsX8_priceAt := sub_r [4, 5, 6, 7, 8, 9, 10] rfl
set_option maxHeartbeats 4000000 in
set_option maxRecDepth 100000 in
theorem c_X8_priceAt (l : Launch) (D : va_G) (T : Nat → ClassId) (h0 : Nat) (fs0 : List Value) (x1 : Int32) (x2 : Int32) (n0 : Int32) (n1 : Int32) (n2 : Int32) (e0_0 : fs0[0]? = some (.int n0)) (e0_1 : fs0[1]? = some (.int n1)) (e0_2 : fs0[2]? = some (.int n2)) : Met l yX8_priceAt wsX8_priceAt ({ frames := 0, cells := 0, slots := 0, locals := 0 }) (pR [.ref h0, .int x1, .int x2] D T [(h0, .inr (5, fs0))]) (vp_Si (fun r => r = ((n0 + (n1 * x2)) - (n2 * (x1 - x2))))) 0 0 (fun _ => False) := by
  refine Met.ofW (cc := cX8_priceAt) (maxL := 3) (ret := (some .int)) (by decide +kernel) rfl ?_
  intro p e s m args below meth c s₁ B hml hv
  obtain ⟨rfl, hP, hE⟩ := hv
  have hx := B.exec
  have hb := B.bytes
  have hr := B.returns
  have hts := atoms_spec (ws := wsX8_priceAt) B.pre
  have hown : s.vm.findClass RX8 = some m.cls := findClass_of_methodNamed B.named
  have hlocks := B.notSynchronized
  have hP : va_P D vwCl [(h0, .inr (5, fs0))] s.heap := hP
  have hl := lv_entry ([.ref h0, .int x1, .int x2]) (n := 3) (Nat.le_of_ble_eq_true rfl)
  rw [lg_entry_eq]
  generalize (lg_sl ([.ref h0, .int x1, .int x2]) ++ List.replicate (3 - (lg_sl ([.ref h0, .int x1, .int x2])).length) Slot.unset).toArray = ls at hl ⊢
  have hl : lv_has ls 3 [(0, .ref h0), (1, .int x1), (2, .int x2)] := hl
  refine lv_aload_n hx hb dX8_priceAt_0 rfl (lv_at hl 0 rfl) ?_
  refine va_get (D := D) (ci := 5) (v := .int n0) (C := RX8) (T := TX8) (N := 7) hx hb hts in_X8_priceAt_X8 hown hE.1 hP 0 rfl rfl 0 (by decide +kernel) (hts (.fieldLink RX8 7 "ClauseBook$Lattice" "start" "I") (List.mem_of_getElem? (i := 1) rfl)) (fun _ h9 => h9) e0_0 dX8_priceAt_1 ?_
  refine lv_aload_n hx hb dX8_priceAt_4 rfl (lv_at hl 0 rfl) ?_
  refine va_get (D := D) (ci := 5) (v := .int n1) (C := RX8) (T := TX8) (N := 7) hx hb hts in_X8_priceAt_X8 hown hE.1 hP 0 rfl rfl 1 (by decide +kernel) (hts (.fieldLink RX8 13 "ClauseBook$Lattice" "up" "I") (List.mem_of_getElem? (i := 2) rfl)) (fun _ h9 => h9) e0_1 dX8_priceAt_5 ?_
  refine lv_iload_n hx hb dX8_priceAt_8 rfl (lv_at hl 2 rfl) ?_
  refine lv_imul hx hb dX8_priceAt_9 ?_
  refine lv_iadd hx hb dX8_priceAt_10 ?_
  refine lv_aload_n hx hb dX8_priceAt_11 rfl (lv_at hl 0 rfl) ?_
  refine va_get (D := D) (ci := 5) (v := .int n2) (C := RX8) (T := TX8) (N := 7) hx hb hts in_X8_priceAt_X8 hown hE.1 hP 0 rfl rfl 2 (by decide +kernel) (hts (.fieldLink RX8 16 "ClauseBook$Lattice" "down" "I") (List.mem_of_getElem? (i := 3) rfl)) (fun _ h9 => h9) e0_2 dX8_priceAt_12 ?_
  refine lv_iload_n hx hb dX8_priceAt_15 rfl (lv_at hl 1 rfl) ?_
  refine lv_iload_n hx hb dX8_priceAt_16 rfl (lv_at hl 2 rfl) ?_
  refine lv_isub hx hb dX8_priceAt_17 ?_
  refine lv_imul hx hb dX8_priceAt_18 ?_
  refine lv_isub hx hb dX8_priceAt_19 ?_
  exact W.iret hx hb hr (fun t ht hW => ⟨_, rfl, rfl, ht⟩) (fun _ h => by cases h) dX8_priceAt_20
theorem dJ6_bitCount_0f7a4_0 : decode cJ6_bitCount_0f7a4 0 = .ok (.iload_n 0, 1) := by decide +kernel
theorem dJ6_bitCount_0f7a4_1 : decode cJ6_bitCount_0f7a4 1 = .ok (.iload_n 0, 1) := by decide +kernel
theorem dJ6_bitCount_0f7a4_10 : decode cJ6_bitCount_0f7a4 10 = .ok (.iload_n 0, 1) := by decide +kernel
theorem dJ6_bitCount_0f7a4_11 : decode cJ6_bitCount_0f7a4 11 = .ok (.ldc_w 266, 3) := by decide +kernel
theorem dJ6_bitCount_0f7a4_14 : decode cJ6_bitCount_0f7a4 14 = .ok (.iand, 1) := by decide +kernel
theorem dJ6_bitCount_0f7a4_15 : decode cJ6_bitCount_0f7a4 15 = .ok (.iload_n 0, 1) := by decide +kernel
theorem dJ6_bitCount_0f7a4_16 : decode cJ6_bitCount_0f7a4 16 = .ok (.iconst 2, 1) := by decide +kernel
theorem dJ6_bitCount_0f7a4_17 : decode cJ6_bitCount_0f7a4 17 = .ok (.iushr, 1) := by decide +kernel
theorem dJ6_bitCount_0f7a4_18 : decode cJ6_bitCount_0f7a4 18 = .ok (.ldc_w 266, 3) := by decide +kernel
theorem dJ6_bitCount_0f7a4_2 : decode cJ6_bitCount_0f7a4 2 = .ok (.iconst 1, 1) := by decide +kernel
theorem dJ6_bitCount_0f7a4_21 : decode cJ6_bitCount_0f7a4 21 = .ok (.iand, 1) := by decide +kernel
theorem dJ6_bitCount_0f7a4_22 : decode cJ6_bitCount_0f7a4 22 = .ok (.iadd, 1) := by decide +kernel
theorem dJ6_bitCount_0f7a4_23 : decode cJ6_bitCount_0f7a4 23 = .ok (.istore_n 0, 1) := by decide +kernel
theorem dJ6_bitCount_0f7a4_24 : decode cJ6_bitCount_0f7a4 24 = .ok (.iload_n 0, 1) := by decide +kernel
theorem dJ6_bitCount_0f7a4_25 : decode cJ6_bitCount_0f7a4 25 = .ok (.iload_n 0, 1) := by decide +kernel
theorem dJ6_bitCount_0f7a4_26 : decode cJ6_bitCount_0f7a4 26 = .ok (.iconst 4, 1) := by decide +kernel
theorem dJ6_bitCount_0f7a4_27 : decode cJ6_bitCount_0f7a4 27 = .ok (.iushr, 1) := by decide +kernel
theorem dJ6_bitCount_0f7a4_28 : decode cJ6_bitCount_0f7a4 28 = .ok (.iadd, 1) := by decide +kernel
theorem dJ6_bitCount_0f7a4_29 : decode cJ6_bitCount_0f7a4 29 = .ok (.ldc_w 267, 3) := by decide +kernel
theorem dJ6_bitCount_0f7a4_3 : decode cJ6_bitCount_0f7a4 3 = .ok (.iushr, 1) := by decide +kernel
theorem dJ6_bitCount_0f7a4_32 : decode cJ6_bitCount_0f7a4 32 = .ok (.iand, 1) := by decide +kernel
theorem dJ6_bitCount_0f7a4_33 : decode cJ6_bitCount_0f7a4 33 = .ok (.istore_n 0, 1) := by decide +kernel
theorem dJ6_bitCount_0f7a4_34 : decode cJ6_bitCount_0f7a4 34 = .ok (.iload_n 0, 1) := by decide +kernel
theorem dJ6_bitCount_0f7a4_35 : decode cJ6_bitCount_0f7a4 35 = .ok (.iload_n 0, 1) := by decide +kernel
theorem dJ6_bitCount_0f7a4_36 : decode cJ6_bitCount_0f7a4 36 = .ok (.bipush 8, 2) := by decide +kernel
theorem dJ6_bitCount_0f7a4_38 : decode cJ6_bitCount_0f7a4 38 = .ok (.iushr, 1) := by decide +kernel
theorem dJ6_bitCount_0f7a4_39 : decode cJ6_bitCount_0f7a4 39 = .ok (.iadd, 1) := by decide +kernel
theorem dJ6_bitCount_0f7a4_4 : decode cJ6_bitCount_0f7a4 4 = .ok (.ldc_w 265, 3) := by decide +kernel
theorem dJ6_bitCount_0f7a4_40 : decode cJ6_bitCount_0f7a4 40 = .ok (.istore_n 0, 1) := by decide +kernel
theorem dJ6_bitCount_0f7a4_41 : decode cJ6_bitCount_0f7a4 41 = .ok (.iload_n 0, 1) := by decide +kernel
theorem dJ6_bitCount_0f7a4_42 : decode cJ6_bitCount_0f7a4 42 = .ok (.iload_n 0, 1) := by decide +kernel
theorem dJ6_bitCount_0f7a4_43 : decode cJ6_bitCount_0f7a4 43 = .ok (.bipush 16, 2) := by decide +kernel
theorem dJ6_bitCount_0f7a4_45 : decode cJ6_bitCount_0f7a4 45 = .ok (.iushr, 1) := by decide +kernel
theorem dJ6_bitCount_0f7a4_46 : decode cJ6_bitCount_0f7a4 46 = .ok (.iadd, 1) := by decide +kernel
theorem dJ6_bitCount_0f7a4_47 : decode cJ6_bitCount_0f7a4 47 = .ok (.istore_n 0, 1) := by decide +kernel
theorem dJ6_bitCount_0f7a4_48 : decode cJ6_bitCount_0f7a4 48 = .ok (.iload_n 0, 1) := by decide +kernel
theorem dJ6_bitCount_0f7a4_49 : decode cJ6_bitCount_0f7a4 49 = .ok (.bipush 63, 2) := by decide +kernel
theorem dJ6_bitCount_0f7a4_51 : decode cJ6_bitCount_0f7a4 51 = .ok (.iand, 1) := by decide +kernel
theorem dJ6_bitCount_0f7a4_52 : decode cJ6_bitCount_0f7a4 52 = .ok (.ireturn, 1) := by decide +kernel
theorem dJ6_bitCount_0f7a4_7 : decode cJ6_bitCount_0f7a4 7 = .ok (.iand, 1) := by decide +kernel
theorem dJ6_bitCount_0f7a4_8 : decode cJ6_bitCount_0f7a4 8 = .ok (.isub, 1) := by decide +kernel
theorem dJ6_bitCount_0f7a4_9 : decode cJ6_bitCount_0f7a4 9 = .ok (.istore_n 0, 1) := by decide +kernel
set_option maxHeartbeats 4000000 in
set_option maxRecDepth 100000 in
theorem c_J6_bitCount_0f7a4 (l : Launch) (D : va_G) (T : Nat → ClassId) (x0 : Int32)  : Met l yJ6_bitCount_0f7a4 wsJ6_bitCount_0f7a4 ({ frames := 0, cells := 0, slots := 0, locals := 0 }) (pR [.int x0] D T []) (vp_Si (fun r => r = sp_bits x0)) 0 0 (fun _ => False) := by
  refine Met.ofW (cc := cJ6_bitCount_0f7a4) (maxL := 1) (ret := (some .int)) (by decide +kernel) rfl ?_
  intro p e s m args below meth c s₁ B hml hv
  obtain ⟨rfl, hP, hE⟩ := hv
  have hx := B.exec
  have hb := B.bytes
  have hr := B.returns
  have hts := atoms_spec (ws := wsJ6_bitCount_0f7a4) B.pre
  have hown : s.vm.findClass RJ6 = some m.cls := findClass_of_methodNamed B.named
  have hlocks := B.notSynchronized
  have hP : va_P D vwCl [] s.heap := hP
  have hl := lv_entry ([.int x0]) (n := 1) (Nat.le_of_ble_eq_true rfl)
  rw [lg_entry_eq]
  generalize (lg_sl ([.int x0]) ++ List.replicate (1 - (lg_sl ([.int x0])).length) Slot.unset).toArray = ls at hl ⊢
  have hl : lv_has ls 1 [(0, .int x0)] := hl
  refine lv_iload_n hx hb dJ6_bitCount_0f7a4_0 rfl (lv_at hl 0 rfl) ?_
  refine lv_iload_n hx hb dJ6_bitCount_0f7a4_1 rfl (lv_at hl 0 rfl) ?_
  refine lv_iconst (v := 1) hx hb dJ6_bitCount_0f7a4_2 (by decide +kernel) ?_
  obtain ⟨z_1, ez_1⟩ : ∃ y : Int32, (x0.toUInt32 >>> ((1 : Int32).toUInt32 &&& Int32.toUInt32 31)).toInt32 = y := ⟨_, rfl⟩
  refine lv_iushr (v := z_1) hx hb dJ6_bitCount_0f7a4_3 ez_1 ?_
  refine lv_ldcw (v := 1431655765) hx hb hown (hts (.constant RJ6 265 (1431655765)) (List.mem_of_getElem? (i := 1) rfl)) dJ6_bitCount_0f7a4_4 ?_
  refine lv_iand hx hb dJ6_bitCount_0f7a4_7 ?_
  refine lv_isub hx hb dJ6_bitCount_0f7a4_8 ?_
  refine lv_topi (fun z_2 ez_2 => ?_)
  refine lv_istore_n (lv' := [(0, .int z_2)]) hx hb dJ6_bitCount_0f7a4_9 rfl hl (by decide +kernel) rfl (fun ls hl => ?_)
  refine lv_iload_n hx hb dJ6_bitCount_0f7a4_10 rfl (lv_at hl 0 rfl) ?_
  refine lv_ldcw (v := 858993459) hx hb hown (hts (.constant RJ6 266 (858993459)) (List.mem_of_getElem? (i := 2) rfl)) dJ6_bitCount_0f7a4_11 ?_
  refine lv_iand hx hb dJ6_bitCount_0f7a4_14 ?_
  refine lv_iload_n hx hb dJ6_bitCount_0f7a4_15 rfl (lv_at hl 0 rfl) ?_
  refine lv_iconst (v := 2) hx hb dJ6_bitCount_0f7a4_16 (by decide +kernel) ?_
  obtain ⟨z_3, ez_3⟩ : ∃ y : Int32, (z_2.toUInt32 >>> ((2 : Int32).toUInt32 &&& Int32.toUInt32 31)).toInt32 = y := ⟨_, rfl⟩
  refine lv_iushr (v := z_3) hx hb dJ6_bitCount_0f7a4_17 ez_3 ?_
  refine lv_ldcw (v := 858993459) hx hb hown (hts (.constant RJ6 266 (858993459)) (List.mem_of_getElem? (i := 2) rfl)) dJ6_bitCount_0f7a4_18 ?_
  refine lv_iand hx hb dJ6_bitCount_0f7a4_21 ?_
  refine lv_iadd hx hb dJ6_bitCount_0f7a4_22 ?_
  refine lv_topi (fun z_4 ez_4 => ?_)
  refine lv_istore_n (lv' := [(0, .int z_4)]) hx hb dJ6_bitCount_0f7a4_23 rfl hl (by decide +kernel) rfl (fun ls hl => ?_)
  refine lv_iload_n hx hb dJ6_bitCount_0f7a4_24 rfl (lv_at hl 0 rfl) ?_
  refine lv_iload_n hx hb dJ6_bitCount_0f7a4_25 rfl (lv_at hl 0 rfl) ?_
  refine lv_iconst (v := 4) hx hb dJ6_bitCount_0f7a4_26 (by decide +kernel) ?_
  obtain ⟨z_5, ez_5⟩ : ∃ y : Int32, (z_4.toUInt32 >>> ((4 : Int32).toUInt32 &&& Int32.toUInt32 31)).toInt32 = y := ⟨_, rfl⟩
  refine lv_iushr (v := z_5) hx hb dJ6_bitCount_0f7a4_27 ez_5 ?_
  refine lv_iadd hx hb dJ6_bitCount_0f7a4_28 ?_
  refine lv_ldcw (v := 252645135) hx hb hown (hts (.constant RJ6 267 (252645135)) (List.mem_of_getElem? (i := 3) rfl)) dJ6_bitCount_0f7a4_29 ?_
  refine lv_iand hx hb dJ6_bitCount_0f7a4_32 ?_
  refine lv_topi (fun z_6 ez_6 => ?_)
  refine lv_istore_n (lv' := [(0, .int z_6)]) hx hb dJ6_bitCount_0f7a4_33 rfl hl (by decide +kernel) rfl (fun ls hl => ?_)
  refine lv_iload_n hx hb dJ6_bitCount_0f7a4_34 rfl (lv_at hl 0 rfl) ?_
  refine lv_iload_n hx hb dJ6_bitCount_0f7a4_35 rfl (lv_at hl 0 rfl) ?_
  refine lv_bipush (v := 8) hx hb dJ6_bitCount_0f7a4_36 (by decide +kernel) ?_
  obtain ⟨z_7, ez_7⟩ : ∃ y : Int32, (z_6.toUInt32 >>> ((8 : Int32).toUInt32 &&& Int32.toUInt32 31)).toInt32 = y := ⟨_, rfl⟩
  refine lv_iushr (v := z_7) hx hb dJ6_bitCount_0f7a4_38 ez_7 ?_
  refine lv_iadd hx hb dJ6_bitCount_0f7a4_39 ?_
  refine lv_topi (fun z_8 ez_8 => ?_)
  refine lv_istore_n (lv' := [(0, .int z_8)]) hx hb dJ6_bitCount_0f7a4_40 rfl hl (by decide +kernel) rfl (fun ls hl => ?_)
  refine lv_iload_n hx hb dJ6_bitCount_0f7a4_41 rfl (lv_at hl 0 rfl) ?_
  refine lv_iload_n hx hb dJ6_bitCount_0f7a4_42 rfl (lv_at hl 0 rfl) ?_
  refine lv_bipush (v := 16) hx hb dJ6_bitCount_0f7a4_43 (by decide +kernel) ?_
  obtain ⟨z_9, ez_9⟩ : ∃ y : Int32, (z_8.toUInt32 >>> ((16 : Int32).toUInt32 &&& Int32.toUInt32 31)).toInt32 = y := ⟨_, rfl⟩
  refine lv_iushr (v := z_9) hx hb dJ6_bitCount_0f7a4_45 ez_9 ?_
  refine lv_iadd hx hb dJ6_bitCount_0f7a4_46 ?_
  refine lv_topi (fun z_10 ez_10 => ?_)
  refine lv_istore_n (lv' := [(0, .int z_10)]) hx hb dJ6_bitCount_0f7a4_47 rfl hl (by decide +kernel) rfl (fun ls hl => ?_)
  refine lv_iload_n hx hb dJ6_bitCount_0f7a4_48 rfl (lv_at hl 0 rfl) ?_
  refine lv_bipush (v := 63) hx hb dJ6_bitCount_0f7a4_49 (by decide +kernel) ?_
  refine lv_iand hx hb dJ6_bitCount_0f7a4_51 ?_
  exact W.iret hx hb hr (fun t ht hW => ⟨_, rfl, (by subst_vars; rfl), ht⟩) (fun _ h => by cases h) dJ6_bitCount_0f7a4_52
theorem dX8_spotOn_0 : decode cX8_spotOn 0 = .ok (.iload_n 0, 1) := by decide +kernel
theorem dX8_spotOn_1 : decode cX8_spotOn 1 = .ok (.iconst 1, 1) := by decide +kernel
theorem dX8_spotOn_10 : decode cX8_spotOn 10 = .ok (.ireturn, 1) := by decide +kernel
theorem dX8_spotOn_2 : decode cX8_spotOn 2 = .ok (.iload_n 1, 1) := by decide +kernel
theorem dX8_spotOn_3 : decode cX8_spotOn 3 = .ok (.ishl, 1) := by decide +kernel
theorem dX8_spotOn_4 : decode cX8_spotOn 4 = .ok (.iconst 1, 1) := by decide +kernel
theorem dX8_spotOn_5 : decode cX8_spotOn 5 = .ok (.isub, 1) := by decide +kernel
theorem dX8_spotOn_6 : decode cX8_spotOn 6 = .ok (.iand, 1) := by decide +kernel
theorem dX8_spotOn_7 : decode cX8_spotOn 7 = .ok (.invokestatic 31, 3) := by decide +kernel
set_option maxRecDepth 20000 in
theorem ggX8_spotOn_J6_bitCount_0f7a4 : GoodIn wsX8_spotOn wsJ6_bitCount_0f7a4 := goodIn_r _ [4, 5, 6, 7] rfl (by decide +kernel)
set_option maxRecDepth 20000 in
theorem gX8_spotOn_J6_bitCount_0f7a4 : GoodIn wsX8_spotOn (va_wsS RX8 31 yJ6_bitCount_0f7a4 wsJ6_bitCount_0f7a4) := goodIn_app (goodIn_of _ (by decide +kernel)) ggX8_spotOn_J6_bitCount_0f7a4
theorem hs_J6_bitCount_0f7a4 : yJ6_bitCount_0f7a4.cls ≠ "java/lang/invoke/MethodHandle" ∧ yJ6_bitCount_0f7a4.cls ≠ "java/lang/invoke/VarHandle" ∧ (parseMethodDescriptor yJ6_bitCount_0f7a4.desc).map (fun d => d.parameters.length) = some 1 := by decide +kernel
set_option maxHeartbeats 4000000 in
set_option maxRecDepth 100000 in
theorem c_X8_spotOn (l : Launch) (D : va_G) (T : Nat → ClassId) (x0 : Int32) (x1 : Int32)  : Met l yX8_spotOn wsX8_spotOn ({ frames := 1, cells := 0, slots := 0, locals := 20 }) (pR [.int x0, .int x1] D T []) (vp_Si (fun r => r = sp_bits (x0 &&& ((1 <<< (x1 &&& 31)) - 1)))) 0 0 (fun _ => False) := by
  refine Met.ofW (cc := cX8_spotOn) (maxL := 2) (ret := (some .int)) (by decide +kernel) rfl ?_
  intro p e s m args below meth c s₁ B hml hv
  obtain ⟨rfl, hP, hE⟩ := hv
  have hx := B.exec
  have hb := B.bytes
  have hr := B.returns
  have hts := atoms_spec (ws := wsX8_spotOn) B.pre
  have hown : s.vm.findClass RX8 = some m.cls := findClass_of_methodNamed B.named
  have hlocks := B.notSynchronized
  have hP : va_P D vwCl [] s.heap := hP
  have hl := lv_entry ([.int x0, .int x1]) (n := 2) (Nat.le_of_ble_eq_true rfl)
  rw [lg_entry_eq]
  generalize (lg_sl ([.int x0, .int x1]) ++ List.replicate (2 - (lg_sl ([.int x0, .int x1])).length) Slot.unset).toArray = ls at hl ⊢
  have hl : lv_has ls 2 [(0, .int x0), (1, .int x1)] := hl
  refine lv_iload_n hx hb dX8_spotOn_0 rfl (lv_at hl 0 rfl) ?_
  refine lv_iconst (v := 1) hx hb dX8_spotOn_1 (by decide +kernel) ?_
  refine lv_iload_n hx hb dX8_spotOn_2 rfl (lv_at hl 1 rfl) ?_
  refine lv_ishl hx hb dX8_spotOn_3 ?_
  refine lv_iconst (v := 1) hx hb dX8_spotOn_4 (by decide +kernel) ?_
  refine lv_isub hx hb dX8_spotOn_5 ?_
  refine lv_iand hx hb dX8_spotOn_6 ?_
  refine vp_callSi (W.runS (As := [.int (x0 &&& ((1 <<< (x1 &&& 31)) - 1))]) (rest := []) ⟨hx, hb, hml, hown, hts⟩ (c_J6_bitCount_0f7a4 l D T (x0 &&& ((1 <<< (x1 &&& 31)) - 1))) (va_cwS 1 hts gX8_spotOn_J6_bitCount_0f7a4 rfl rfl rfl hs_J6_bitCount_0f7a4 ⟨Nat.le_of_ble_eq_true rfl, Nat.le_of_ble_eq_true rfl⟩) (pR_S hP hE [] rfl) rfl rfl hl.1 rfl (lv_room (Nat.le_of_ble_eq_true rfl)) dX8_spotOn_7 ⟨Nat.le_of_ble_eq_true rfl, Nat.le_of_ble_eq_true rfl⟩) (fun r_1 hr_1 => ?_)
  obtain rfl : (sp_bits (x0 &&& ((1 <<< (x1 &&& 31)) - 1))) = r_1 := (hr_1).symm
  exact W.iret hx hb hr (fun t ht hW => ⟨_, rfl, rfl, ht⟩) (fun _ h => by cases h) dX8_spotOn_10
def sp_priceL (x y z d s : Int32) : Int32 := if (0 ≤ d.toInt ∧ d.toInt ≤ 6) ∧ 0 ≤ s.toInt ∧ s.toInt ≤ d.toInt then ((x + (y * s)) - (z * (d - s))) else -2
theorem dX12_price_0 : decode cX12_price 0 = .ok (.iload_n 1, 1) := by decide +kernel
theorem dX12_price_1 : decode cX12_price 1 = .ok (.iload_n 2, 1) := by decide +kernel
theorem dX12_price_12 : decode cX12_price 12 = .ok (.iload_n 1, 1) := by decide +kernel
theorem dX12_price_13 : decode cX12_price 13 = .ok (.iload_n 2, 1) := by decide +kernel
theorem dX12_price_14 : decode cX12_price 14 = .ok (.invokevirtual 112, 3) := by decide +kernel
theorem dX12_price_17 : decode cX12_price 17 = .ok (.goto 5, 3) := by decide +kernel
theorem dX12_price_2 : decode cX12_price 2 = .ok (.invokestatic 108, 3) := by decide +kernel
theorem dX12_price_20 : decode cX12_price 20 = .ok (.bipush (-2), 2) := by decide +kernel
theorem dX12_price_22 : decode cX12_price 22 = .ok (.ireturn, 1) := by decide +kernel
theorem dX12_price_5 : decode cX12_price 5 = .ok (.ifCond .eq 15, 3) := by decide +kernel
theorem dX12_price_8 : decode cX12_price 8 = .ok (.aload_n 0, 1) := by decide +kernel
theorem dX12_price_9 : decode cX12_price 9 = .ok (.getfield 27, 3) := by decide +kernel
set_option maxRecDepth 20000 in
theorem ggX12_price_X12_isSpot : GoodIn wsX12_price wsX12_isSpot := goodIn_r _ [5, 6, 7, 4, 8, 9, 10, 11] rfl (by decide +kernel)
set_option maxRecDepth 20000 in
theorem ggX12_price_X8_priceAt : GoodIn wsX12_price wsX8_priceAt := goodIn_r _ [16, 17, 18, 19, 31, 32, 33, 34, 35, 36, 37] rfl (by decide +kernel)
set_option maxRecDepth 20000 in
theorem gX12_price_X12_isSpot : GoodIn wsX12_price (va_wsS RX12 108 yX12_isSpot wsX12_isSpot) := goodIn_app (goodIn_of _ (by decide +kernel)) ggX12_price_X12_isSpot
set_option maxRecDepth 20000 in
theorem gX12_price_X8_priceAt : GoodIn wsX12_price (wsV RX12 112 RX8 yX8_priceAt wsX8_priceAt) := goodIn_app (goodIn_r _ [12, 13, 14, 15] rfl (by decide +kernel)) ggX12_price_X8_priceAt
theorem hs_X12_isSpot : yX12_isSpot.cls ≠ "java/lang/invoke/MethodHandle" ∧ yX12_isSpot.cls ≠ "java/lang/invoke/VarHandle" ∧ (parseMethodDescriptor yX12_isSpot.desc).map (fun d => d.parameters.length) = some 2 := by decide +kernel
theorem hv_X8_priceAt : yX8_priceAt.cls = RX8 ∧ yX8_priceAt.cls ≠ "java/lang/invoke/MethodHandle" ∧ yX8_priceAt.cls ≠ "java/lang/invoke/VarHandle" ∧ (parseMethodDescriptor yX8_priceAt.desc).map (fun d => d.parameters.length) = some 2 := by decide +kernel
set_option maxRecDepth 20000 in
theorem in_X12_price_X12 : ∀ w ∈ wsX120, w ∈ wsX12_price := sub_r [20, 21, 22, 23, 24, 25, 26, 27, 28, 29, 30] rfl
set_option maxHeartbeats 4000000 in
set_option maxRecDepth 100000 in
theorem c_X12_price (l : Launch) (D : va_G) (T : Nat → ClassId) (h0 : Nat) (fs0 : List Value) (h1 : Nat) (fs1 : List Value) (x1 : Int32) (x2 : Int32) (n0 : Int32) (n1 : Int32) (n2 : Int32) (e0_3 : fs0[3]? = some (.ref h1)) (e1_0 : fs1[0]? = some (.int n0)) (e1_1 : fs1[1]? = some (.int n1)) (e1_2 : fs1[2]? = some (.int n2)) : Met l yX12_price wsX12_price ({ frames := 3, cells := 0, slots := 0, locals := 63 }) (pR [.ref h0, .int x1, .int x2] D T [(h0, .inr (9, fs0)), (h1, .inr (5, fs1))]) (vp_Si (fun r => r = sp_priceL n0 n1 n2 x1 x2)) 0 0 (fun _ => False) := by
  refine Met.ofW (cc := cX12_price) (maxL := 3) (ret := (some .int)) (by decide +kernel) rfl ?_
  intro p e s m args below meth c s₁ B hml hv
  obtain ⟨rfl, hP, hE⟩ := hv
  have hx := B.exec
  have hb := B.bytes
  have hr := B.returns
  have hts := atoms_spec (ws := wsX12_price) B.pre
  have hown : s.vm.findClass RX12 = some m.cls := findClass_of_methodNamed B.named
  have hlocks := B.notSynchronized
  have hP : va_P D vwCl [(h0, .inr (9, fs0)), (h1, .inr (5, fs1))] s.heap := hP
  have hl := lv_entry ([.ref h0, .int x1, .int x2]) (n := 3) (Nat.le_of_ble_eq_true rfl)
  rw [lg_entry_eq]
  generalize (lg_sl ([.ref h0, .int x1, .int x2]) ++ List.replicate (3 - (lg_sl ([.ref h0, .int x1, .int x2])).length) Slot.unset).toArray = ls at hl ⊢
  have hl : lv_has ls 3 [(0, .ref h0), (1, .int x1), (2, .int x2)] := hl
  refine lv_iload_n hx hb dX12_price_0 rfl (lv_at hl 1 rfl) ?_
  refine lv_iload_n hx hb dX12_price_1 rfl (lv_at hl 2 rfl) ?_
  refine vp_callSi (W.runS (As := [.int x1, .int x2]) (rest := []) ⟨hx, hb, hml, hown, hts⟩ (c_X12_isSpot l D T x1 x2) (va_cwS 2 hts gX12_price_X12_isSpot rfl rfl rfl hs_X12_isSpot ⟨Nat.le_of_ble_eq_true rfl, Nat.le_of_ble_eq_true rfl⟩) (pR_S hP hE [] rfl) rfl rfl hl.1 rfl (lv_room (Nat.le_of_ble_eq_true rfl)) dX12_price_2 ⟨Nat.le_of_ble_eq_true rfl, Nat.le_of_ble_eq_true rfl⟩) (fun r_1 hr_1 => ?_)
  rcases bool_post hr_1 with ⟨c_2, rfl⟩ | ⟨c_2, rfl⟩
  · refine lv_if_eq (tgt := 20) hx hb dX12_price_5 (by decide +kernel) (fun c9 => absurd c9 (by decide +kernel)) (fun _ => ?_)
    refine lv_aload_n hx hb dX12_price_8 rfl (lv_at hl 0 rfl) ?_
    refine va_get (D := D) (ci := 9) (v := .ref h1) (C := RX12) (T := TX12) (N := 11) hx hb hts in_X12_price_X12 hown hE.1 hP 0 rfl rfl 3 (by decide +kernel) (hts (.fieldLink RX12 27 "ClauseBook" "lattice" "LClauseBook$Lattice;") (List.mem_of_getElem? (i := 1) rfl)) (fun _ h9 => h9) e0_3 dX12_price_9 ?_
    refine lv_iload_n hx hb dX12_price_12 rfl (lv_at hl 1 rfl) ?_
    refine lv_iload_n hx hb dX12_price_13 rfl (lv_at hl 2 rfl) ?_
    refine vp_callSi (W.runV (As := [.int x1, .int x2]) (rest := []) ⟨hx, hb, hml, hown, hts⟩ (c_X8_priceAt l D T h1 fs1 x1 x2 n0 n1 n2 e1_0 e1_1 e1_2) (cwV 2 hts gX12_price_X8_priceAt rfl rfl rfl hv_X8_priceAt ⟨Nat.le_of_ble_eq_true rfl, Nat.le_of_ble_eq_true rfl⟩) (pR_V (q := (RX8, TX8, 7)) (ci := 5) (q0 := 1) hP hE rfl rfl [1] rfl) rfl rfl hl.1 rfl (lv_room (Nat.le_of_ble_eq_true rfl)) dX12_price_14 ⟨Nat.le_of_ble_eq_true rfl, Nat.le_of_ble_eq_true rfl⟩) (fun r_3 hr_3 => ?_)
    refine lv_goto (tgt := 22) hx hb dX12_price_17 (by decide +kernel) ?_
    exact W.iret hx hb hr (fun t ht hW => ⟨_, rfl, (by unfold sp_priceL; rw [if_pos (by omega)]; first | exact hr_3 | rfl), ht⟩) (fun _ h => by cases h) dX12_price_22
  · refine lv_if_eq (tgt := 20) hx hb dX12_price_5 (by decide +kernel) (fun _ => ?_) (fun c9 => absurd c9 (by decide +kernel))
    refine lv_bipush (v := (-2)) hx hb dX12_price_20 (by decide +kernel) ?_
    exact W.iret hx hb hr (fun t ht hW => ⟨_, rfl, (by unfold sp_priceL; rw [if_neg (by omega)]), ht⟩) (fun _ h => by cases h) dX12_price_22
theorem dX12_spotOf_0 : decode cX12_spotOf 0 = .ok (.iload_n 1, 1) := by decide +kernel
theorem dX12_spotOf_1 : decode cX12_spotOf 1 = .ok (.invokestatic 116, 3) := by decide +kernel
theorem dX12_spotOf_11 : decode cX12_spotOf 11 = .ok (.ifCond .eq 11, 3) := by decide +kernel
theorem dX12_spotOf_14 : decode cX12_spotOf 14 = .ok (.iload_n 1, 1) := by decide +kernel
theorem dX12_spotOf_15 : decode cX12_spotOf 15 = .ok (.iload_n 2, 1) := by decide +kernel
theorem dX12_spotOf_16 : decode cX12_spotOf 16 = .ok (.invokestatic 123, 3) := by decide +kernel
theorem dX12_spotOf_19 : decode cX12_spotOf 19 = .ok (.goto 5, 3) := by decide +kernel
theorem dX12_spotOf_22 : decode cX12_spotOf 22 = .ok (.bipush (-2), 2) := by decide +kernel
theorem dX12_spotOf_24 : decode cX12_spotOf 24 = .ok (.ireturn, 1) := by decide +kernel
theorem dX12_spotOf_4 : decode cX12_spotOf 4 = .ok (.ifCond .eq 18, 3) := by decide +kernel
theorem dX12_spotOf_7 : decode cX12_spotOf 7 = .ok (.iload_n 2, 1) := by decide +kernel
theorem dX12_spotOf_8 : decode cX12_spotOf 8 = .ok (.invokestatic 120, 3) := by decide +kernel
set_option maxRecDepth 20000 in
theorem ggX12_spotOf_X12_isDay : GoodIn wsX12_spotOf wsX12_isDay := goodIn_r _ [10, 5, 6, 3, 7] rfl (by decide +kernel)
set_option maxRecDepth 20000 in
theorem ggX12_spotOf_X12_isPath : GoodIn wsX12_spotOf wsX12_isPath := goodIn_r _ [4, 5, 6, 3, 7] rfl (by decide +kernel)
set_option maxRecDepth 20000 in
theorem ggX12_spotOf_X8_spotOn : GoodIn wsX12_spotOf wsX8_spotOn := goodIn_r _ [14, 15, 16, 17, 18, 19, 20, 21] rfl (by decide +kernel)
set_option maxRecDepth 20000 in
theorem gX12_spotOf_X12_isDay : GoodIn wsX12_spotOf (va_wsS RX12 120 yX12_isDay wsX12_isDay) := goodIn_app (goodIn_of _ (by decide +kernel)) ggX12_spotOf_X12_isDay
set_option maxRecDepth 20000 in
theorem gX12_spotOf_X12_isPath : GoodIn wsX12_spotOf (va_wsS RX12 116 yX12_isPath wsX12_isPath) := goodIn_app (goodIn_of _ (by decide +kernel)) ggX12_spotOf_X12_isPath
set_option maxRecDepth 20000 in
theorem gX12_spotOf_X8_spotOn : GoodIn wsX12_spotOf (va_wsS RX12 123 yX8_spotOn wsX8_spotOn) := goodIn_app (goodIn_of _ (by decide +kernel)) ggX12_spotOf_X8_spotOn
theorem hs_X8_spotOn : yX8_spotOn.cls ≠ "java/lang/invoke/MethodHandle" ∧ yX8_spotOn.cls ≠ "java/lang/invoke/VarHandle" ∧ (parseMethodDescriptor yX8_spotOn.desc).map (fun d => d.parameters.length) = some 2 := by decide +kernel
set_option maxHeartbeats 4000000 in
set_option maxRecDepth 100000 in
theorem c_X12_spotOf (l : Launch) (D : va_G) (T : Nat → ClassId) (h0 : Nat) (fs0 : List Value) (x1 : Int32) (x2 : Int32)  : Met l yX12_spotOf wsX12_spotOf ({ frames := 2, cells := 0, slots := 0, locals := 42 }) (pR [.ref h0, .int x1, .int x2] D T [(h0, .inr (9, fs0))]) (vp_Si (fun r => r = sp_spotOf x1 x2)) 0 0 (fun _ => False) := by
  refine Met.ofW (cc := cX12_spotOf) (maxL := 3) (ret := (some .int)) (by decide +kernel) rfl ?_
  intro p e s m args below meth c s₁ B hml hv
  obtain ⟨rfl, hP, hE⟩ := hv
  have hx := B.exec
  have hb := B.bytes
  have hr := B.returns
  have hts := atoms_spec (ws := wsX12_spotOf) B.pre
  have hown : s.vm.findClass RX12 = some m.cls := findClass_of_methodNamed B.named
  have hlocks := B.notSynchronized
  have hP : va_P D vwCl [(h0, .inr (9, fs0))] s.heap := hP
  have hl := lv_entry ([.ref h0, .int x1, .int x2]) (n := 3) (Nat.le_of_ble_eq_true rfl)
  rw [lg_entry_eq]
  generalize (lg_sl ([.ref h0, .int x1, .int x2]) ++ List.replicate (3 - (lg_sl ([.ref h0, .int x1, .int x2])).length) Slot.unset).toArray = ls at hl ⊢
  have hl : lv_has ls 3 [(0, .ref h0), (1, .int x1), (2, .int x2)] := hl
  refine lv_iload_n hx hb dX12_spotOf_0 rfl (lv_at hl 1 rfl) ?_
  refine vp_callSi (W.runS (As := [.int x1]) (rest := []) ⟨hx, hb, hml, hown, hts⟩ (c_X12_isPath l D T x1) (va_cwS 1 hts gX12_spotOf_X12_isPath rfl rfl rfl hs_X12_isPath ⟨Nat.le_of_ble_eq_true rfl, Nat.le_of_ble_eq_true rfl⟩) (pR_S hP hE [] rfl) rfl rfl hl.1 rfl (lv_room (Nat.le_of_ble_eq_true rfl)) dX12_spotOf_1 ⟨Nat.le_of_ble_eq_true rfl, Nat.le_of_ble_eq_true rfl⟩) (fun r_1 hr_1 => ?_)
  rcases bool_post hr_1 with ⟨c_2, rfl⟩ | ⟨c_2, rfl⟩
  · refine lv_if_eq (tgt := 22) hx hb dX12_spotOf_4 (by decide +kernel) (fun c9 => absurd c9 (by decide +kernel)) (fun _ => ?_)
    refine lv_iload_n hx hb dX12_spotOf_7 rfl (lv_at hl 2 rfl) ?_
    refine vp_callSi (W.runS (As := [.int x2]) (rest := []) ⟨hx, hb, hml, hown, hts⟩ (c_X12_isDay l D T x2) (va_cwS 1 hts gX12_spotOf_X12_isDay rfl rfl rfl hs_X12_isDay ⟨Nat.le_of_ble_eq_true rfl, Nat.le_of_ble_eq_true rfl⟩) (pR_S hP hE [] rfl) rfl rfl hl.1 rfl (lv_room (Nat.le_of_ble_eq_true rfl)) dX12_spotOf_8 ⟨Nat.le_of_ble_eq_true rfl, Nat.le_of_ble_eq_true rfl⟩) (fun r_3 hr_3 => ?_)
    rcases bool_post hr_3 with ⟨c_4, rfl⟩ | ⟨c_4, rfl⟩
    · refine lv_if_eq (tgt := 22) hx hb dX12_spotOf_11 (by decide +kernel) (fun c9 => absurd c9 (by decide +kernel)) (fun _ => ?_)
      refine lv_iload_n hx hb dX12_spotOf_14 rfl (lv_at hl 1 rfl) ?_
      refine lv_iload_n hx hb dX12_spotOf_15 rfl (lv_at hl 2 rfl) ?_
      refine vp_callSi (W.runS (As := [.int x1, .int x2]) (rest := []) ⟨hx, hb, hml, hown, hts⟩ (c_X8_spotOn l D T x1 x2) (va_cwS 2 hts gX12_spotOf_X8_spotOn rfl rfl rfl hs_X8_spotOn ⟨Nat.le_of_ble_eq_true rfl, Nat.le_of_ble_eq_true rfl⟩) (pR_S hP hE [] rfl) rfl rfl hl.1 rfl (lv_room (Nat.le_of_ble_eq_true rfl)) dX12_spotOf_16 ⟨Nat.le_of_ble_eq_true rfl, Nat.le_of_ble_eq_true rfl⟩) (fun r_5 hr_5 => ?_)
      obtain rfl : (sp_bits (x1 &&& ((1 <<< (x2 &&& 31)) - 1))) = r_5 := (hr_5).symm
      refine lv_goto (tgt := 24) hx hb dX12_spotOf_19 (by decide +kernel) ?_
      exact W.iret hx hb hr (fun t ht hW => ⟨_, rfl, (by first | decide | (unfold sp_spotOf; (repeat' split) <;> first | rfl | (exfalso; omega))), ht⟩) (fun _ h => by cases h) dX12_spotOf_24
    · refine lv_if_eq (tgt := 22) hx hb dX12_spotOf_11 (by decide +kernel) (fun _ => ?_) (fun c9 => absurd c9 (by decide +kernel))
      refine lv_bipush (v := (-2)) hx hb dX12_spotOf_22 (by decide +kernel) ?_
      exact W.iret hx hb hr (fun t ht hW => ⟨_, rfl, (by first | decide | (unfold sp_spotOf; (repeat' split) <;> first | rfl | (exfalso; omega))), ht⟩) (fun _ h => by cases h) dX12_spotOf_24
  · refine lv_if_eq (tgt := 22) hx hb dX12_spotOf_4 (by decide +kernel) (fun _ => ?_) (fun c9 => absurd c9 (by decide +kernel))
    refine lv_bipush (v := (-2)) hx hb dX12_spotOf_22 (by decide +kernel) ?_
    exact W.iret hx hb hr (fun t ht hW => ⟨_, rfl, (by first | decide | (unfold sp_spotOf; (repeat' split) <;> first | rfl | (exfalso; omega))), ht⟩) (fun _ h => by cases h) dX12_spotOf_24
/-- clauseOf(), out of seven rows -/
def clOf (n x w r : Int32) (f1 f2 f3 f4 f5 f6 f7 : Nat → Int32) : Prop := (¬ (0 ≤ x.toInt ∧ x.toInt < n.toInt) ∧ r.toInt = -2) ∨ ((0 ≤ x.toInt ∧ x.toInt < n.toInt) ∧ ((w.toInt = 0 ∧ r = f1 x.toNatClampNeg) ∨ (w.toInt = 1 ∧ r = f2 x.toNatClampNeg) ∨ (w.toInt = 2 ∧ r = f3 x.toNatClampNeg) ∨ (w.toInt = 3 ∧ r = f4 x.toNatClampNeg) ∨ (w.toInt = 4 ∧ r = f5 x.toNatClampNeg) ∨ (w.toInt = 5 ∧ r = f6 x.toNatClampNeg) ∨ (w.toInt = 6 ∧ r = f7 x.toNatClampNeg) ∨ (¬ (0 ≤ w.toInt ∧ w.toInt ≤ 6) ∧ r.toInt = -2)))
theorem dX12_clauseOf_0 : decode cX12_clauseOf 0 = .ok (.aload_n 0, 1) := by decide +kernel
theorem dX12_clauseOf_1 : decode cX12_clauseOf 1 = .ok (.getfield 32, 3) := by decide +kernel
theorem dX12_clauseOf_100 : decode cX12_clauseOf 100 = .ok (.getfield 166, 3) := by decide +kernel
theorem dX12_clauseOf_103 : decode cX12_clauseOf 103 = .ok (.iload_n 1, 1) := by decide +kernel
theorem dX12_clauseOf_104 : decode cX12_clauseOf 104 = .ok (.iaload, 1) := by decide +kernel
theorem dX12_clauseOf_105 : decode cX12_clauseOf 105 = .ok (.ireturn, 1) := by decide +kernel
theorem dX12_clauseOf_106 : decode cX12_clauseOf 106 = .ok (.aload_n 0, 1) := by decide +kernel
theorem dX12_clauseOf_107 : decode cX12_clauseOf 107 = .ok (.getfield 32, 3) := by decide +kernel
theorem dX12_clauseOf_11 : decode cX12_clauseOf 11 = .ok (.bipush (-2), 2) := by decide +kernel
theorem dX12_clauseOf_110 : decode cX12_clauseOf 110 = .ok (.getfield 169, 3) := by decide +kernel
theorem dX12_clauseOf_113 : decode cX12_clauseOf 113 = .ok (.iload_n 1, 1) := by decide +kernel
theorem dX12_clauseOf_114 : decode cX12_clauseOf 114 = .ok (.iaload, 1) := by decide +kernel
theorem dX12_clauseOf_115 : decode cX12_clauseOf 115 = .ok (.ireturn, 1) := by decide +kernel
theorem dX12_clauseOf_116 : decode cX12_clauseOf 116 = .ok (.aload_n 0, 1) := by decide +kernel
theorem dX12_clauseOf_117 : decode cX12_clauseOf 117 = .ok (.getfield 32, 3) := by decide +kernel
theorem dX12_clauseOf_120 : decode cX12_clauseOf 120 = .ok (.getfield 172, 3) := by decide +kernel
theorem dX12_clauseOf_123 : decode cX12_clauseOf 123 = .ok (.iload_n 1, 1) := by decide +kernel
theorem dX12_clauseOf_124 : decode cX12_clauseOf 124 = .ok (.iaload, 1) := by decide +kernel
theorem dX12_clauseOf_125 : decode cX12_clauseOf 125 = .ok (.ireturn, 1) := by decide +kernel
theorem dX12_clauseOf_126 : decode cX12_clauseOf 126 = .ok (.bipush (-2), 2) := by decide +kernel
theorem dX12_clauseOf_128 : decode cX12_clauseOf 128 = .ok (.ireturn, 1) := by decide +kernel
theorem dX12_clauseOf_13 : decode cX12_clauseOf 13 = .ok (.ireturn, 1) := by decide +kernel
theorem dX12_clauseOf_14 : decode cX12_clauseOf 14 = .ok (.iload_n 2, 1) := by decide +kernel
theorem dX12_clauseOf_15 : decode cX12_clauseOf 15 = .ok (.tableswitch 111 0 6 #[41, 51, 61, 71, 81, 91, 101], 41) := by decide +kernel
theorem dX12_clauseOf_4 : decode cX12_clauseOf 4 = .ok (.iload_n 1, 1) := by decide +kernel
theorem dX12_clauseOf_5 : decode cX12_clauseOf 5 = .ok (.invokevirtual 150, 3) := by decide +kernel
theorem dX12_clauseOf_56 : decode cX12_clauseOf 56 = .ok (.aload_n 0, 1) := by decide +kernel
theorem dX12_clauseOf_57 : decode cX12_clauseOf 57 = .ok (.getfield 32, 3) := by decide +kernel
theorem dX12_clauseOf_60 : decode cX12_clauseOf 60 = .ok (.getfield 153, 3) := by decide +kernel
theorem dX12_clauseOf_63 : decode cX12_clauseOf 63 = .ok (.iload_n 1, 1) := by decide +kernel
theorem dX12_clauseOf_64 : decode cX12_clauseOf 64 = .ok (.iaload, 1) := by decide +kernel
theorem dX12_clauseOf_65 : decode cX12_clauseOf 65 = .ok (.ireturn, 1) := by decide +kernel
theorem dX12_clauseOf_66 : decode cX12_clauseOf 66 = .ok (.aload_n 0, 1) := by decide +kernel
theorem dX12_clauseOf_67 : decode cX12_clauseOf 67 = .ok (.getfield 32, 3) := by decide +kernel
theorem dX12_clauseOf_70 : decode cX12_clauseOf 70 = .ok (.getfield 157, 3) := by decide +kernel
theorem dX12_clauseOf_73 : decode cX12_clauseOf 73 = .ok (.iload_n 1, 1) := by decide +kernel
theorem dX12_clauseOf_74 : decode cX12_clauseOf 74 = .ok (.iaload, 1) := by decide +kernel
theorem dX12_clauseOf_75 : decode cX12_clauseOf 75 = .ok (.ireturn, 1) := by decide +kernel
theorem dX12_clauseOf_76 : decode cX12_clauseOf 76 = .ok (.aload_n 0, 1) := by decide +kernel
theorem dX12_clauseOf_77 : decode cX12_clauseOf 77 = .ok (.getfield 32, 3) := by decide +kernel
theorem dX12_clauseOf_8 : decode cX12_clauseOf 8 = .ok (.ifCond .ne 6, 3) := by decide +kernel
theorem dX12_clauseOf_80 : decode cX12_clauseOf 80 = .ok (.getfield 160, 3) := by decide +kernel
theorem dX12_clauseOf_83 : decode cX12_clauseOf 83 = .ok (.iload_n 1, 1) := by decide +kernel
theorem dX12_clauseOf_84 : decode cX12_clauseOf 84 = .ok (.iaload, 1) := by decide +kernel
theorem dX12_clauseOf_85 : decode cX12_clauseOf 85 = .ok (.ireturn, 1) := by decide +kernel
theorem dX12_clauseOf_86 : decode cX12_clauseOf 86 = .ok (.aload_n 0, 1) := by decide +kernel
theorem dX12_clauseOf_87 : decode cX12_clauseOf 87 = .ok (.getfield 32, 3) := by decide +kernel
theorem dX12_clauseOf_90 : decode cX12_clauseOf 90 = .ok (.getfield 163, 3) := by decide +kernel
theorem dX12_clauseOf_93 : decode cX12_clauseOf 93 = .ok (.iload_n 1, 1) := by decide +kernel
theorem dX12_clauseOf_94 : decode cX12_clauseOf 94 = .ok (.iaload, 1) := by decide +kernel
theorem dX12_clauseOf_95 : decode cX12_clauseOf 95 = .ok (.ireturn, 1) := by decide +kernel
theorem dX12_clauseOf_96 : decode cX12_clauseOf 96 = .ok (.aload_n 0, 1) := by decide +kernel
theorem dX12_clauseOf_97 : decode cX12_clauseOf 97 = .ok (.getfield 32, 3) := by decide +kernel
set_option maxRecDepth 20000 in
theorem ggX12_clauseOf_X2_has : GoodIn wsX12_clauseOf wsX2_has := goodIn_r _ [13, 14, 15, 16, 17, 29, 30, 31, 32, 33, 34, 35, 36] rfl (by decide +kernel)
set_option maxRecDepth 20000 in
theorem gX12_clauseOf_X2_has : GoodIn wsX12_clauseOf (wsV RX12 150 RX2 yX2_has wsX2_has) := goodIn_app (goodIn_r _ [9, 10, 11, 12] rfl (by decide +kernel)) ggX12_clauseOf_X2_has
set_option maxRecDepth 20000 in
theorem in_X12_clauseOf_X12 : ∀ w ∈ wsX120, w ∈ wsX12_clauseOf := sub_r [18, 19, 20, 21, 22, 23, 24, 25, 26, 27, 28] rfl
set_option maxRecDepth 20000 in
theorem in_X12_clauseOf_X2 : ∀ w ∈ wsX20, w ∈ wsX12_clauseOf := sub_r [29, 30, 31, 32, 33, 34, 35, 36] rfl
set_option maxHeartbeats 4000000 in
set_option maxRecDepth 100000 in
theorem c_X12_clauseOf (l : Launch) (D : va_G) (T : Nat → ClassId) (h0 : Nat) (fs0 : List Value) (h1 : Nat) (fs1 : List Value) (h2 : Nat) (f2 : Nat → Int32) (h3 : Nat) (f3 : Nat → Int32) (h4 : Nat) (f4 : Nat → Int32) (h5 : Nat) (f5 : Nat → Int32) (h6 : Nat) (f6 : Nat → Int32) (h7 : Nat) (f7 : Nat → Int32) (h8 : Nat) (f8 : Nat → Int32) (x1 : Int32) (x2 : Int32) (n : Int32) (e0_4 : fs0[4]? = some (.ref h1)) (e1_0 : fs1[0]? = some (.int n)) (e1_1 : fs1[1]? = some (.ref h2)) (e1_2 : fs1[2]? = some (.ref h3)) (e1_3 : fs1[3]? = some (.ref h4)) (e1_4 : fs1[4]? = some (.ref h5)) (e1_5 : fs1[5]? = some (.ref h6)) (e1_6 : fs1[6]? = some (.ref h7)) (e1_7 : fs1[7]? = some (.ref h8)) (hn0 : 0 ≤ n.toInt ∧ n.toInt ≤ 24) : Met l yX12_clauseOf wsX12_clauseOf ({ frames := 2, cells := 0, slots := 0, locals := 43 }) (pR [.ref h0, .int x1, .int x2] D T [(h0, .inr (9, fs0)), (h1, .inr (1, fs1)), (h2, .inl (T 0, 24, .inl f2)), (h3, .inl (T 0, 24, .inl f3)), (h4, .inl (T 0, 24, .inl f4)), (h5, .inl (T 0, 24, .inl f5)), (h6, .inl (T 0, 24, .inl f6)), (h7, .inl (T 0, 24, .inl f7)), (h8, .inl (T 0, 24, .inl f8))]) (vp_Si (fun r => clOf n x1 x2 r f2 f3 f4 f5 f6 f7 f8)) 0 0 (fun _ => False) := by
  refine Met.ofW (cc := cX12_clauseOf) (maxL := 3) (ret := (some .int)) (by decide +kernel) rfl ?_
  intro p e s m args below meth c s₁ B hml hv
  obtain ⟨rfl, hP, hE⟩ := hv
  have hx := B.exec
  have hb := B.bytes
  have hr := B.returns
  have hts := atoms_spec (ws := wsX12_clauseOf) B.pre
  have hown : s.vm.findClass RX12 = some m.cls := findClass_of_methodNamed B.named
  have hlocks := B.notSynchronized
  have hP : va_P D vwCl [(h0, .inr (9, fs0)), (h1, .inr (1, fs1)), (h2, .inl (T 0, 24, .inl f2)), (h3, .inl (T 0, 24, .inl f3)), (h4, .inl (T 0, 24, .inl f4)), (h5, .inl (T 0, 24, .inl f5)), (h6, .inl (T 0, 24, .inl f6)), (h7, .inl (T 0, 24, .inl f7)), (h8, .inl (T 0, 24, .inl f8))] s.heap := hP
  have hl := lv_entry ([.ref h0, .int x1, .int x2]) (n := 3) (Nat.le_of_ble_eq_true rfl)
  rw [lg_entry_eq]
  generalize (lg_sl ([.ref h0, .int x1, .int x2]) ++ List.replicate (3 - (lg_sl ([.ref h0, .int x1, .int x2])).length) Slot.unset).toArray = ls at hl ⊢
  have hl : lv_has ls 3 [(0, .ref h0), (1, .int x1), (2, .int x2)] := hl
  refine lv_aload_n hx hb dX12_clauseOf_0 rfl (lv_at hl 0 rfl) ?_
  refine va_get (D := D) (ci := 9) (v := .ref h1) (C := RX12) (T := TX12) (N := 11) hx hb hts in_X12_clauseOf_X12 hown hE.1 hP 0 rfl rfl 4 (by decide +kernel) (hts (.fieldLink RX12 32 "ClauseBook" "clauses" "LClauseBook$Clauses;") (List.mem_of_getElem? (i := 1) rfl)) (fun _ h9 => h9) e0_4 dX12_clauseOf_1 ?_
  refine lv_iload_n hx hb dX12_clauseOf_4 rfl (lv_at hl 1 rfl) ?_
  refine vp_callSi (W.runV (As := [.int x1]) (rest := []) ⟨hx, hb, hml, hown, hts⟩ (c_X2_has l D T h1 fs1 x1 n e1_0 (by omega)) (cwV 1 hts gX12_clauseOf_X2_has rfl rfl rfl hv_X2_has ⟨Nat.le_of_ble_eq_true rfl, Nat.le_of_ble_eq_true rfl⟩) (pR_V (q := (RX2, TX2, 8)) (ci := 1) (q0 := 1) hP hE rfl rfl [1] rfl) rfl rfl hl.1 rfl (lv_room (Nat.le_of_ble_eq_true rfl)) dX12_clauseOf_5 ⟨Nat.le_of_ble_eq_true rfl, Nat.le_of_ble_eq_true rfl⟩) (fun r_1 hr_1 => ?_)
  rcases bool_post hr_1 with ⟨c_2, rfl⟩ | ⟨c_2, rfl⟩
  · refine lv_if_ne (tgt := 14) hx hb dX12_clauseOf_8 (by decide +kernel) (fun _ => ?_) (fun c9 => absurd c9 (by decide +kernel))
    refine lv_iload_n hx hb dX12_clauseOf_14 rfl (lv_at hl 2 rfl) ?_
    by_cases k_3 : x2 = 0
    · subst k_3
      refine lv_tableIn (off := 41) (tgt := 56) hx hb dX12_clauseOf_15 (by decide +kernel) (by decide +kernel) (by decide +kernel) (by decide +kernel) ?_
      refine lv_aload_n hx hb dX12_clauseOf_56 rfl (lv_at hl 0 rfl) ?_
      refine va_get (D := D) (ci := 9) (v := .ref h1) (C := RX12) (T := TX12) (N := 11) hx hb hts in_X12_clauseOf_X12 hown hE.1 hP 0 rfl rfl 4 (by decide +kernel) (hts (.fieldLink RX12 32 "ClauseBook" "clauses" "LClauseBook$Clauses;") (List.mem_of_getElem? (i := 1) rfl)) (fun _ h9 => h9) e0_4 dX12_clauseOf_57 ?_
      refine va_get (D := D) (ci := 1) (v := .ref h2) (C := RX2) (T := TX2) (N := 8) hx hb hts in_X12_clauseOf_X2 hown hE.1 hP 1 rfl rfl 1 (by decide +kernel) (hts (.fieldLink RX12 153 "ClauseBook$Clauses" "kind" "[I") (List.mem_of_getElem? (i := 2) rfl)) (fun _ h9 => h9) e1_1 dX12_clauseOf_60 ?_
      refine lv_iload_n hx hb dX12_clauseOf_63 rfl (lv_at hl 1 rfl) ?_
      refine va_iald hx hb hE.1 hP 2 0 rfl rfl (by rw [vp_in_iff]; first | omega | (subst_vars; rw [dec1 (by omega)]; omega) | (subst_vars; rw [inc1 (n := 1000) (by omega) (by decide +kernel)]; omega)) dX12_clauseOf_64 ?_
      refine lv_topi (fun z_4 ez_4 => ?_)
      exact W.iret hx hb hr (fun t ht hW => ⟨_, rfl, (Or.inr ⟨(by omega), Or.inl ⟨(by decide +kernel), (ez_4)⟩⟩), ht⟩) (fun _ h => by cases h) dX12_clauseOf_65
    by_cases k_5 : x2 = 1
    · subst k_5
      refine lv_tableIn (off := 51) (tgt := 66) hx hb dX12_clauseOf_15 (by decide +kernel) (by decide +kernel) (by decide +kernel) (by decide +kernel) ?_
      refine lv_aload_n hx hb dX12_clauseOf_66 rfl (lv_at hl 0 rfl) ?_
      refine va_get (D := D) (ci := 9) (v := .ref h1) (C := RX12) (T := TX12) (N := 11) hx hb hts in_X12_clauseOf_X12 hown hE.1 hP 0 rfl rfl 4 (by decide +kernel) (hts (.fieldLink RX12 32 "ClauseBook" "clauses" "LClauseBook$Clauses;") (List.mem_of_getElem? (i := 1) rfl)) (fun _ h9 => h9) e0_4 dX12_clauseOf_67 ?_
      refine va_get (D := D) (ci := 1) (v := .ref h3) (C := RX2) (T := TX2) (N := 8) hx hb hts in_X12_clauseOf_X2 hown hE.1 hP 1 rfl rfl 2 (by decide +kernel) (hts (.fieldLink RX12 157 "ClauseBook$Clauses" "n" "[I") (List.mem_of_getElem? (i := 3) rfl)) (fun _ h9 => h9) e1_2 dX12_clauseOf_70 ?_
      refine lv_iload_n hx hb dX12_clauseOf_73 rfl (lv_at hl 1 rfl) ?_
      refine va_iald hx hb hE.1 hP 3 0 rfl rfl (by rw [vp_in_iff]; first | omega | (subst_vars; rw [dec1 (by omega)]; omega) | (subst_vars; rw [inc1 (n := 1000) (by omega) (by decide +kernel)]; omega)) dX12_clauseOf_74 ?_
      refine lv_topi (fun z_6 ez_6 => ?_)
      exact W.iret hx hb hr (fun t ht hW => ⟨_, rfl, (Or.inr ⟨(by omega), Or.inr (Or.inl ⟨(by decide +kernel), (ez_6)⟩)⟩), ht⟩) (fun _ h => by cases h) dX12_clauseOf_75
    by_cases k_7 : x2 = 2
    · subst k_7
      refine lv_tableIn (off := 61) (tgt := 76) hx hb dX12_clauseOf_15 (by decide +kernel) (by decide +kernel) (by decide +kernel) (by decide +kernel) ?_
      refine lv_aload_n hx hb dX12_clauseOf_76 rfl (lv_at hl 0 rfl) ?_
      refine va_get (D := D) (ci := 9) (v := .ref h1) (C := RX12) (T := TX12) (N := 11) hx hb hts in_X12_clauseOf_X12 hown hE.1 hP 0 rfl rfl 4 (by decide +kernel) (hts (.fieldLink RX12 32 "ClauseBook" "clauses" "LClauseBook$Clauses;") (List.mem_of_getElem? (i := 1) rfl)) (fun _ h9 => h9) e0_4 dX12_clauseOf_77 ?_
      refine va_get (D := D) (ci := 1) (v := .ref h4) (C := RX2) (T := TX2) (N := 8) hx hb hts in_X12_clauseOf_X2 hown hE.1 hP 1 rfl rfl 3 (by decide +kernel) (hts (.fieldLink RX12 160 "ClauseBook$Clauses" "c" "[I") (List.mem_of_getElem? (i := 4) rfl)) (fun _ h9 => h9) e1_3 dX12_clauseOf_80 ?_
      refine lv_iload_n hx hb dX12_clauseOf_83 rfl (lv_at hl 1 rfl) ?_
      refine va_iald hx hb hE.1 hP 4 0 rfl rfl (by rw [vp_in_iff]; first | omega | (subst_vars; rw [dec1 (by omega)]; omega) | (subst_vars; rw [inc1 (n := 1000) (by omega) (by decide +kernel)]; omega)) dX12_clauseOf_84 ?_
      refine lv_topi (fun z_8 ez_8 => ?_)
      exact W.iret hx hb hr (fun t ht hW => ⟨_, rfl, (Or.inr ⟨(by omega), Or.inr (Or.inr (Or.inl ⟨(by decide +kernel), (ez_8)⟩))⟩), ht⟩) (fun _ h => by cases h) dX12_clauseOf_85
    by_cases k_9 : x2 = 3
    · subst k_9
      refine lv_tableIn (off := 71) (tgt := 86) hx hb dX12_clauseOf_15 (by decide +kernel) (by decide +kernel) (by decide +kernel) (by decide +kernel) ?_
      refine lv_aload_n hx hb dX12_clauseOf_86 rfl (lv_at hl 0 rfl) ?_
      refine va_get (D := D) (ci := 9) (v := .ref h1) (C := RX12) (T := TX12) (N := 11) hx hb hts in_X12_clauseOf_X12 hown hE.1 hP 0 rfl rfl 4 (by decide +kernel) (hts (.fieldLink RX12 32 "ClauseBook" "clauses" "LClauseBook$Clauses;") (List.mem_of_getElem? (i := 1) rfl)) (fun _ h9 => h9) e0_4 dX12_clauseOf_87 ?_
      refine va_get (D := D) (ci := 1) (v := .ref h5) (C := RX2) (T := TX2) (N := 8) hx hb hts in_X12_clauseOf_X2 hown hE.1 hP 1 rfl rfl 4 (by decide +kernel) (hts (.fieldLink RX12 163 "ClauseBook$Clauses" "d" "[I") (List.mem_of_getElem? (i := 5) rfl)) (fun _ h9 => h9) e1_4 dX12_clauseOf_90 ?_
      refine lv_iload_n hx hb dX12_clauseOf_93 rfl (lv_at hl 1 rfl) ?_
      refine va_iald hx hb hE.1 hP 5 0 rfl rfl (by rw [vp_in_iff]; first | omega | (subst_vars; rw [dec1 (by omega)]; omega) | (subst_vars; rw [inc1 (n := 1000) (by omega) (by decide +kernel)]; omega)) dX12_clauseOf_94 ?_
      refine lv_topi (fun z_10 ez_10 => ?_)
      exact W.iret hx hb hr (fun t ht hW => ⟨_, rfl, (Or.inr ⟨(by omega), Or.inr (Or.inr (Or.inr (Or.inl ⟨(by decide +kernel), (ez_10)⟩)))⟩), ht⟩) (fun _ h => by cases h) dX12_clauseOf_95
    by_cases k_11 : x2 = 4
    · subst k_11
      refine lv_tableIn (off := 81) (tgt := 96) hx hb dX12_clauseOf_15 (by decide +kernel) (by decide +kernel) (by decide +kernel) (by decide +kernel) ?_
      refine lv_aload_n hx hb dX12_clauseOf_96 rfl (lv_at hl 0 rfl) ?_
      refine va_get (D := D) (ci := 9) (v := .ref h1) (C := RX12) (T := TX12) (N := 11) hx hb hts in_X12_clauseOf_X12 hown hE.1 hP 0 rfl rfl 4 (by decide +kernel) (hts (.fieldLink RX12 32 "ClauseBook" "clauses" "LClauseBook$Clauses;") (List.mem_of_getElem? (i := 1) rfl)) (fun _ h9 => h9) e0_4 dX12_clauseOf_97 ?_
      refine va_get (D := D) (ci := 1) (v := .ref h6) (C := RX2) (T := TX2) (N := 8) hx hb hts in_X12_clauseOf_X2 hown hE.1 hP 1 rfl rfl 5 (by decide +kernel) (hts (.fieldLink RX12 166 "ClauseBook$Clauses" "end" "[I") (List.mem_of_getElem? (i := 6) rfl)) (fun _ h9 => h9) e1_5 dX12_clauseOf_100 ?_
      refine lv_iload_n hx hb dX12_clauseOf_103 rfl (lv_at hl 1 rfl) ?_
      refine va_iald hx hb hE.1 hP 6 0 rfl rfl (by rw [vp_in_iff]; first | omega | (subst_vars; rw [dec1 (by omega)]; omega) | (subst_vars; rw [inc1 (n := 1000) (by omega) (by decide +kernel)]; omega)) dX12_clauseOf_104 ?_
      refine lv_topi (fun z_12 ez_12 => ?_)
      exact W.iret hx hb hr (fun t ht hW => ⟨_, rfl, (Or.inr ⟨(by omega), Or.inr (Or.inr (Or.inr (Or.inr (Or.inl ⟨(by decide +kernel), (ez_12)⟩))))⟩), ht⟩) (fun _ h => by cases h) dX12_clauseOf_105
    by_cases k_13 : x2 = 5
    · subst k_13
      refine lv_tableIn (off := 91) (tgt := 106) hx hb dX12_clauseOf_15 (by decide +kernel) (by decide +kernel) (by decide +kernel) (by decide +kernel) ?_
      refine lv_aload_n hx hb dX12_clauseOf_106 rfl (lv_at hl 0 rfl) ?_
      refine va_get (D := D) (ci := 9) (v := .ref h1) (C := RX12) (T := TX12) (N := 11) hx hb hts in_X12_clauseOf_X12 hown hE.1 hP 0 rfl rfl 4 (by decide +kernel) (hts (.fieldLink RX12 32 "ClauseBook" "clauses" "LClauseBook$Clauses;") (List.mem_of_getElem? (i := 1) rfl)) (fun _ h9 => h9) e0_4 dX12_clauseOf_107 ?_
      refine va_get (D := D) (ci := 1) (v := .ref h7) (C := RX2) (T := TX2) (N := 8) hx hb hts in_X12_clauseOf_X2 hown hE.1 hP 1 rfl rfl 6 (by decide +kernel) (hts (.fieldLink RX12 169 "ClauseBook$Clauses" "made" "[I") (List.mem_of_getElem? (i := 7) rfl)) (fun _ h9 => h9) e1_6 dX12_clauseOf_110 ?_
      refine lv_iload_n hx hb dX12_clauseOf_113 rfl (lv_at hl 1 rfl) ?_
      refine va_iald hx hb hE.1 hP 7 0 rfl rfl (by rw [vp_in_iff]; first | omega | (subst_vars; rw [dec1 (by omega)]; omega) | (subst_vars; rw [inc1 (n := 1000) (by omega) (by decide +kernel)]; omega)) dX12_clauseOf_114 ?_
      refine lv_topi (fun z_14 ez_14 => ?_)
      exact W.iret hx hb hr (fun t ht hW => ⟨_, rfl, (Or.inr ⟨(by omega), Or.inr (Or.inr (Or.inr (Or.inr (Or.inr (Or.inl ⟨(by decide +kernel), (ez_14)⟩)))))⟩), ht⟩) (fun _ h => by cases h) dX12_clauseOf_115
    by_cases k_15 : x2 = 6
    · subst k_15
      refine lv_tableIn (off := 101) (tgt := 116) hx hb dX12_clauseOf_15 (by decide +kernel) (by decide +kernel) (by decide +kernel) (by decide +kernel) ?_
      refine lv_aload_n hx hb dX12_clauseOf_116 rfl (lv_at hl 0 rfl) ?_
      refine va_get (D := D) (ci := 9) (v := .ref h1) (C := RX12) (T := TX12) (N := 11) hx hb hts in_X12_clauseOf_X12 hown hE.1 hP 0 rfl rfl 4 (by decide +kernel) (hts (.fieldLink RX12 32 "ClauseBook" "clauses" "LClauseBook$Clauses;") (List.mem_of_getElem? (i := 1) rfl)) (fun _ h9 => h9) e0_4 dX12_clauseOf_117 ?_
      refine va_get (D := D) (ci := 1) (v := .ref h8) (C := RX2) (T := TX2) (N := 8) hx hb hts in_X12_clauseOf_X2 hown hE.1 hP 1 rfl rfl 7 (by decide +kernel) (hts (.fieldLink RX12 172 "ClauseBook$Clauses" "deep" "[I") (List.mem_of_getElem? (i := 8) rfl)) (fun _ h9 => h9) e1_7 dX12_clauseOf_120 ?_
      refine lv_iload_n hx hb dX12_clauseOf_123 rfl (lv_at hl 1 rfl) ?_
      refine va_iald hx hb hE.1 hP 8 0 rfl rfl (by rw [vp_in_iff]; first | omega | (subst_vars; rw [dec1 (by omega)]; omega) | (subst_vars; rw [inc1 (n := 1000) (by omega) (by decide +kernel)]; omega)) dX12_clauseOf_124 ?_
      refine lv_topi (fun z_16 ez_16 => ?_)
      exact W.iret hx hb hr (fun t ht hW => ⟨_, rfl, (Or.inr ⟨(by omega), Or.inr (Or.inr (Or.inr (Or.inr (Or.inr (Or.inr (Or.inl ⟨(by decide +kernel), (ez_16)⟩))))))⟩), ht⟩) (fun _ h => by cases h) dX12_clauseOf_125
    rw [fa_eq] at k_3 k_5 k_7 k_9 k_11 k_13 k_15
    try simp only [ti_0, ti_1, ti_2, ti_3, ti_4, ti_5, ti_6] at k_3 k_5 k_7 k_9 k_11 k_13 k_15
    refine lv_tableOut (tgt := 126) hx hb dX12_clauseOf_15 (by omega) (by decide +kernel) ?_
    refine lv_bipush (v := (-2)) hx hb dX12_clauseOf_126 (by decide +kernel) ?_
    exact W.iret hx hb hr (fun t ht hW => ⟨_, rfl, (Or.inr ⟨(by omega), (Or.inr (Or.inr (Or.inr (Or.inr (Or.inr (Or.inr (Or.inr ⟨(by omega), (by decide +kernel)⟩)))))))⟩), ht⟩) (fun _ h => by cases h) dX12_clauseOf_128
  · refine lv_if_ne (tgt := 14) hx hb dX12_clauseOf_8 (by decide +kernel) (fun c9 => absurd c9 (by decide +kernel)) (fun _ => ?_)
    refine lv_bipush (v := (-2)) hx hb dX12_clauseOf_11 (by decide +kernel) ?_
    exact W.iret hx hb hr (fun t ht hW => ⟨_, rfl, (Or.inl ⟨(by omega), (by decide +kernel)⟩), ht⟩) (fun _ h => by cases h) dX12_clauseOf_13
