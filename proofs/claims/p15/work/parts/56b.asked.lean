/-! what the reference's asks read of the table -/
theorem slN_b {c x t k : Int32} (h : 0 ≤ c.toInt ∧ c.toInt < x.toInt) (g : spK t k) : ((slN c t k : Nat) : Int) < 28 * x.toInt := by
  obtain ⟨⟨a, b⟩, c2, d⟩ := g
  have h1 := tn h.1
  have h2 := tn a
  have h3 := tn c2
  have h4 := trN_le (t := t.toNatClampNeg) (by omega)
  unfold slN
  omega
theorem tab_m0 {f20 f21 : Nat → Int64} {f22 : Nat → Int32} {x t k : Int32} (h : ¬ (f22 (slN x t k)).toInt = 0) : (tabW f20 f21 f22 x t k).2.toInt = 0 := by
  rw [tab_n h]
  decide
theorem tab_m1 {f20 f21 : Nat → Int64} {f22 : Nat → Int32} {x t k : Int32} (h : (f22 (slN x t k)).toInt = 0) (hb : 1 ≤ (f21 (slN x t k)).toInt) : ¬ (tabW f20 f21 f22 x t k).2.toInt = 0 := by
  rw [tab_y h]
  show ¬ (f21 (slN x t k)).toInt = 0
  omega
theorem tab_cmp {f20 f21 : Nat → Int64} {f22 : Nat → Int32} {x t k y t' k' : Int32} (h1 : (f22 (slN x t k)).toInt = 0) (h2 : (f22 (slN y t' k')).toInt = 0) : cmpP (tabW f20 f21 f22 x t k) (tabW f20 f21 f22 y t' k') = cmpW (f20 (slN x t k)).toInt (f21 (slN x t k)).toInt (f20 (slN y t' k')).toInt (f21 (slN y t' k')).toInt := by
  rw [tab_y h1, tab_y h2]
  rfl
theorem part_m {f20 f21 : Nat → Int64} {f22 : Nat → Int32} {x t k i : Int32} {r : Int64} (h : ¬ (f22 (slN x t k)).toInt = 0) (e : r.toInt = -4611686018427387909) : partW (tabW f20 f21 f22 x t k) i r := by
  rw [tab_n h]
  exact Or.inl ⟨by decide, e⟩
theorem part_v {f20 f21 : Nat → Int64} {f22 : Nat → Int32} {x t k i : Int32} {r : Int64} (h : (f22 (slN x t k)).toInt = 0) (hb : 1 ≤ (f21 (slN x t k)).toInt) (e : (i.toInt = 0 ∧ r = f20 (slN x t k)) ∨ (i.toInt ≠ 0 ∧ r = f21 (slN x t k))) : partW (tabW f20 f21 f22 x t k) i r := by
  rw [tab_y h]
  exact Or.inr ⟨(show (f21 (slN x t k)).toInt ≠ 0 by omega), e⟩
theorem part_mm {b i : Int32} {u v r : Int64} (h : ¬ b.toInt = 0) (e : r.toInt = -4611686018427387909) : partW (mpW b u v) i r := by
  rw [mp_n h]
  exact Or.inl ⟨by decide, e⟩
theorem part_mv {b i : Int32} {u v r : Int64} (h : b.toInt = 0) (hb : 1 ≤ v.toInt) (e : (i.toInt = 0 ∧ r = u) ∨ (i.toInt ≠ 0 ∧ r = v)) : partW (mpW b u v) i r := by
  rw [mp_y h]
  exact Or.inr ⟨(show v.toInt ≠ 0 by omega), e⟩
theorem avg_tv {l : Nat → Int32} {T V : vaF} {x t k : Int32} (h : ∀ t s : Int32, spK t s → T x t s = V x t s) (ht : 0 ≤ t.toInt ∧ t.toInt ≤ 5) (hk : 0 ≤ k.toInt ∧ k.toInt ≤ t.toInt) : avgW l T x t k = avgW l V x t k := by
  have e := inc1 (i := t) (n := 6) (by omega) (by decide +kernel)
  have e2 := inc1 (i := k) (n := 6) (by omega) (by decide +kernel)
  exact avg_ext ⟨rfl, rfl, rfl, rfl⟩ ⟨h (t + 1) (k + 1) ⟨⟨by omega, by omega⟩, by omega, by omega⟩, h (t + 1) k ⟨⟨by omega, by omega⟩, by omega, by omega⟩⟩
/-! taken -/
theorem tkM_y {l fc : Nat → Int32} {f20 f21 : Nat → Int64} {f22 : Nat → Int32} {x p t c sp r n : Int32} {u v : Int64} (hc : c = fc x.toNatClampNeg) (hs : sp = spW p t) (hr : r = f22 (slN c t sp)) (h2 : r.toInt = 0 → mpW n u v = avgW l (tabW f20 f21 f22) x t sp) (hn : ¬ n.toInt = 0) : tkM l fc (tabW f20 f21 f22) x p t := by
  subst hc
  subst hs
  unfold tkM
  by_cases h : r.toInt = 0
  · refine Or.inr ?_
    have e := h2 h
    rw [mp_n hn] at e
    rw [← e]
    decide
  · exact Or.inl (tab_m0 (by rw [← hr]; exact h))
theorem tk_of {l fc : Nat → Int32} {f20 f21 : Nat → Int64} {f22 : Nat → Int32} {x p t c sp r n m : Int32} {u v : Int64} (hc : c = fc x.toNatClampNeg) (hs : sp = spW p t) (hr : r = f22 (slN c t sp)) (h2 : r.toInt = 0 → mpW n u v = avgW l (tabW f20 f21 f22) x t sp) (h3 : n.toInt = 0 → r.toInt = 0) (hn : n.toInt = 0) (hb : 1 ≤ (f21 (slN c t sp)).toInt) (hv : 1 ≤ v.toInt) (q : m.toInt = cmpW (f20 (slN c t sp)).toInt (f21 (slN c t sp)).toInt u.toInt v.toInt) : ¬ tkM l fc (tabW f20 f21 f22) x p t ∧ tkS l fc (tabW f20 f21 f22) x p t = m.toInt := by
  subst hc
  subst hs
  have h := h3 hn
  have e := h2 h
  rw [mp_y hn] at e
  have h0 : (f22 (slN (fc x.toNatClampNeg) t (spW p t))).toInt = 0 := by rw [← hr]; exact h
  refine ⟨fun g => ?_, ?_⟩
  · unfold tkM at g
    rcases g with g | g
    · exact tab_m1 h0 hb g
    · rw [← e] at g
      have g : v.toInt = 0 := g
      omega
  · unfold tkS
    rw [← e, tab_y h0, q]
    rfl
theorem takQ_ext {l l' fc fc' : Nat → Int32} {T V : vaF} {e : Int} {x p t0 r : Int32} (he : e ≤ 6) (h0 : 0 ≤ t0.toInt) (hp : 0 ≤ p.toInt ∧ p.toInt ≤ 63) (hc : ∀ t s : Int32, spK t s → T (fc x.toNatClampNeg) t s = V (fc' x.toNatClampNeg) t s) (hx : ∀ t k : Int32, spK t k → t.toInt ≤ 5 → avgW l T x t k = avgW l' V x t k) (a : takQ l fc T e x p t0 r) : takQ l' fc' V e x p t0 r := by
  have key : ∀ t : Int32, t0.toInt ≤ t.toInt → t.toInt < e → (tkM l fc T x p t ↔ tkM l' fc' V x p t) ∧ tkS l fc T x p t = tkS l' fc' V x p t := fun t a b => by
    have hs : 0 ≤ (spW p t).toInt ∧ (spW p t).toInt ≤ t.toInt := spot_in hp ⟨by omega, by omega⟩
    have e1 := hc t (spW p t) ⟨⟨by omega, by omega⟩, hs.1, hs.2⟩
    have e2 := hx t (spW p t) ⟨⟨by omega, by omega⟩, hs.1, hs.2⟩ (by omega)
    unfold tkM tkS
    rw [e1, e2]
    exact ⟨Iff.rfl, rfl⟩
  have kn : ∀ t : Int32, t0.toInt ≤ t.toInt → t.toInt < e → tkN l fc T x p t → tkN l' fc' V x p t := fun t a b g => by
    obtain ⟨k1, k2⟩ := key t a b
    exact ⟨fun q => g.1 (k1.2 q), by rw [← k2]; exact g.2⟩
  rcases a with ⟨a1, t, a2, a3, a4, a5⟩ | ⟨a1, a2, a3, a4⟩
  · exact Or.inl ⟨a1, t, a2, a3, ((key t a2 a3).1).1 a4, fun s b1 b2 => kn s b1 (by omega) (a5 s b1 b2)⟩
  · refine Or.inr ⟨a1, a2, fun q => ?_, fun s b1 b2 => kn s b1 (by omega) (a4 s b1 b2)⟩
    obtain ⟨k1, k2⟩ := key r a1 q
    exact ⟨fun g => (a3 q).1 (k1.2 g), by rw [← k2]; exact (a3 q).2⟩
theorem tkQ_uniq {l l' fk fk' fc fc' fe fe' : Nat → Int32} {V V' : vaF} {n x t p r r' : Int32} (hk : inN n x → fk x.toNatClampNeg = fk' x.toNatClampNeg ∧ fe x.toNatClampNeg = fe' x.toNatClampNeg ∧ (fe x.toNatClampNeg).toInt ≤ 6) (hc : inN n x → (fk x.toNatClampNeg).toNatClampNeg = 11 → ∀ t s : Int32, spK t s → V' (fc' x.toNatClampNeg) t s = V (fc x.toNatClampNeg) t s) (hx : inN n x → ∀ t k : Int32, spK t k → t.toInt ≤ 5 → avgW l' V' x t k = avgW l V x t k) (a : tkQ l fk fc fe V n x t p r) (b : tkQ l' fk' fc' fe' V' n x t p r') : r = r' := by
  unfold tkQ at a b
  by_cases h : hadV n x t p
  · have hi : inN n x := h.1
    rw [← (hk hi).1, ← (hk hi).2.1] at b
    rcases a with ⟨a1, a2⟩ | ⟨a1, a2⟩
    · have b := b.resolve_right (fun q => a1 q.1)
      exact Int32.toInt_inj.1 (by omega)
    · have b := (b.resolve_left (fun q => q.1 a1)).2
      rcases a2 with ⟨a2, a3⟩ | ⟨a2, a3⟩
      · rcases b with ⟨_, b3⟩ | ⟨b2, _⟩
        · exact Int32.toInt_inj.1 (by omega)
        · exact absurd a2 b2
      · rcases b with ⟨b2, _⟩ | ⟨_, b3⟩
        · exact absurd b2 a2
        · exact takQ_uniq a3 (takQ_ext (hk hi).2.2 h.2.1.1 h.2.2 (hc hi a1.2) (hx hi) b3)
  · have a := a.resolve_right (fun q => h q.1.1)
    have b := b.resolve_right (fun q => h q.1.1)
    exact Int32.toInt_inj.1 (by omega)
/-! most -/
def moI (V : vaF) (x t ss be ov : Int32) : Prop := (ov.toInt = 0 ∧ (∀ k : Int32, 0 ≤ k.toInt → k.toInt < ss.toInt → ¬ (V x t k).2.toInt = 0) ∧ ((ss.toInt = 0 ∧ be.toInt = 0) ∨ bestI (V x t) be ss)) ∨ (¬ ov.toInt = 0 ∧ ∃ k : Int32, (0 ≤ k.toInt ∧ k.toInt < ss.toInt) ∧ (V x t k).2.toInt = 0)
theorem moI_0 {V : vaF} {x t : Int32} : moI V x t 0 0 0 := Or.inl ⟨ti_0, fun k a b => by rw [ti_0] at b; omega, Or.inl ⟨ti_0, ti_0⟩⟩
theorem moI_step {V : vaF} {x t ss s' be be' ov z o' r : Int32} (h : moI V x t ss be ov) (h0 : 0 ≤ ss.toInt) (hi : s'.toInt = ss.toInt + 1) (hz : z.toInt = 0 ↔ ¬ (V x t ss).2.toInt = 0) (ho : o'.toInt = 0 ↔ (ov.toInt = 0 ∧ z.toInt = 0)) (hc : ¬ (V x t ss).2.toInt = 0 → ¬ (V x t be).2.toInt = 0 → cmpP (V x t ss) (V x t be) = r.toInt) (hl : ∀ k : Int32, lowW (V x t k)) (hb : (0 < r.toInt ∧ be' = ss) ∨ (r.toInt ≤ 0 ∧ be' = be)) : moI V x t s' be' o' := by
  by_cases hm : (V x t ss).2.toInt = 0
  · refine Or.inr ⟨fun q => hz.1 (ho.1 q).2 hm, ss, by omega, hm⟩
  · rcases h with ⟨a1, a2, a3⟩ | ⟨a1, k, a2, a3⟩
    · have ho := ho.2 ⟨a1, hz.2 hm⟩
      have hall : ∀ k : Int32, 0 ≤ k.toInt → k.toInt ≤ ss.toInt → ¬ (V x t k).2.toInt = 0 := nm_le (P := fun k9 => ¬ (V x t k9).2.toInt = 0) a2 hm
      refine Or.inl ⟨ho, nm_s (P := fun k9 => ¬ (V x t k9).2.toInt = 0) a2 hm hi, Or.inr ?_⟩
      rcases a3 with ⟨b1, b2⟩ | b
      · have e1 : be = ss := Int32.toInt_inj.1 (by omega)
        subst e1
        have hc := hc hm hm
        rw [cmpP_refl] at hc
        have e2 := (hb.resolve_left (fun q => by omega)).2
        subst e2
        have e3 : be' = 0 := Int32.toInt_inj.1 (by rw [ti_0]; omega)
        have e4 : s' = 1 := Int32.toInt_inj.1 (by rw [ti_1]; omega)
        subst e3
        subst e4
        exact best_0
      · have hbe := hall be b.1.1 (by have := b.1.2; omega)
        have hc := hc hm hbe
        rcases hb with ⟨c1, c2⟩ | ⟨c1, c2⟩
        · subst c2
          exact best_gt b hi (fun j d1 d2 => low_pos (hl j) (hall j d1 d2)) (by omega)
        · subst c2
          exact best_le b hi (by omega)
    · exact Or.inr ⟨fun q => a1 (ho.1 q).1, k, by omega, a3⟩
theorem moI_end {V : vaF} {n x t ss be ov r : Int32} (hv : (0 ≤ x.toInt ∧ x.toInt < n.toInt) ∧ 0 ≤ t.toInt ∧ t.toInt ≤ 6) (h : moI V x t ss be ov) (hs : ss.toInt = t.toInt + 1) (hr : (ov.toInt = 0 ∧ r = be) ∨ (¬ ov.toInt = 0 ∧ r.toInt = -5)) : mostQ V n x t r := by
  rcases h with ⟨a1, a2, a3⟩ | ⟨a1, k, a2, a3⟩
  · have e := (hr.resolve_right (fun q => q.1 a1)).2
    subst e
    have b := a3.resolve_left (fun q => by omega)
    exact most_of hv b hs a2
  · have e := (hr.resolve_left (fun q => a1 q.1)).2
    exact most_mu hv (k := k) ⟨hv.2, by omega, by omega⟩ a3 e
/-! bags -/
def bbJ (V : vaF) (n : Int32) (f : Nat → Int32) (t k m b ov : Int32) : Prop := (ov.toInt = 0 ∧ bbI V n f t k m b) ∨ (¬ ov.toInt = 0 ∧ ∃ i : Int32, (0 ≤ i.toInt ∧ i.toInt < m.toInt) ∧ inN n (f i.toNatClampNeg) ∧ (V (f i.toNatClampNeg) t k).2.toInt = 0)
theorem bbJ_0 {V : vaF} {n : Int32} {f : Nat → Int32} {t k : Int32} : bbJ V n f t k 0 (-1) 0 := Or.inl ⟨ti_0, bbI_0⟩
theorem bbJ_skip {V : vaF} {n : Int32} {f : Nat → Int32} {t k m b m' ov : Int32} (h : bbJ V n f t k m b ov) (hi : m'.toInt = m.toInt + 1) (c : ¬ inN n (f m.toNatClampNeg)) : bbJ V n f t k m' b ov := by
  rcases h with ⟨a1, a2⟩ | ⟨a1, i, a2, a3, a4⟩
  · exact Or.inl ⟨a1, bbI_skip a2 hi c⟩
  · exact Or.inr ⟨a1, i, by omega, a3, a4⟩
theorem bbJ_step {V : vaF} {n : Int32} {f : Nat → Int32} {t k m b b' m' ov z o' : Int32} (h : bbJ V n f t k m b ov) (h0 : 0 ≤ m.toInt) (hi : m'.toInt = m.toInt + 1) (hn : inN n (f m.toNatClampNeg)) (hz : z.toInt = 0 ↔ ¬ (V (f m.toNatClampNeg) t k).2.toInt = 0) (ho : o'.toInt = 0 ↔ (ov.toInt = 0 ∧ z.toInt = 0)) (hl : ∀ i : Int32, lowW (V (f i.toNatClampNeg) t k)) (hb : (b' = m ∧ (b.toInt = -1 ∨ (¬ b.toInt = -1 ∧ (¬ (V (f m.toNatClampNeg) t k).2.toInt = 0 → ¬ (V (f b.toNatClampNeg) t k).2.toInt = 0 → 0 < cmpP (V (f m.toNatClampNeg) t k) (V (f b.toNatClampNeg) t k))))) ∨ (b' = b ∧ ¬ b.toInt = -1 ∧ (¬ (V (f m.toNatClampNeg) t k).2.toInt = 0 → ¬ (V (f b.toNatClampNeg) t k).2.toInt = 0 → cmpP (V (f m.toNatClampNeg) t k) (V (f b.toNatClampNeg) t k) ≤ 0))) : bbJ V n f t k m' b' o' := by
  by_cases hm : (V (f m.toNatClampNeg) t k).2.toInt = 0
  · exact Or.inr ⟨fun q => hz.1 (ho.1 q).2 hm, m, by omega, hn, hm⟩
  · rcases h with ⟨a1, a2⟩ | ⟨a1, i, a2, a3, a4⟩
    · have ho := ho.2 ⟨a1, hz.2 hm⟩
      have hbm : ¬ b.toInt = -1 → ¬ (V (f b.toNatClampNeg) t k).2.toInt = 0 := fun q => by
        obtain ⟨c1, c2⟩ := a2
        rcases c2 with ⟨c2, _⟩ | ⟨c2, c3, _⟩
        · exact absurd c2 q
        · exact c1 b c2 c3
      refine Or.inl ⟨ho, ?_⟩
      rcases hb with ⟨e, hb⟩ | ⟨e, q, hb⟩
      · subst e
        rcases hb with hb | ⟨q, hb⟩
        · exact bbI_take a2 h0 hi hn hm hl (Or.inl hb)
        · exact bbI_take a2 h0 hi hn hm hl (Or.inr (hb hm (hbm q)))
      · subst e
        exact bbI_keep a2 hi hm q (hb hm (hbm q))
    · exact Or.inr ⟨fun q => a1 (ho.1 q).1, i, by omega, a3, a4⟩
theorem bbJ_end {V : vaF} {n z : Int32} {f : Nat → Int32} {ok : Prop} {t k m b ov r : Int32} (hv : ok ∧ spK t k) (h : bbJ V n f t k m b ov) (h1 : ¬ m.toInt < z.toInt) (h2 : m.toInt ≤ z.toInt) (hr : (ov.toInt = 0 ∧ r = b) ∨ (¬ ov.toInt = 0 ∧ r.toInt = -5)) : bbQ V n z f ok t k r := by
  rcases h with ⟨a1, a2⟩ | ⟨a1, i, a2, a3, a4⟩
  · have e := (hr.resolve_right (fun q => q.1 a1)).2
    subst e
    exact bb_of hv (bb_end a2 h1 h2)
  · have e := (hr.resolve_left (fun q => a1 q.1)).2
    exact Or.inr ⟨hv, Or.inl ⟨⟨i, by omega, a3, a4⟩, e⟩⟩
theorem or_iff {x y : Int32} (hx : isB x) (hy : isB y) : (x ||| y).toInt = 0 ↔ (x.toInt = 0 ∧ y.toInt = 0) := ⟨fun h => isB.or0 hx hy h, fun h => or_00 h.1 h.2⟩
theorem mz_iff {f20 f21 : Nat → Int64} {f22 : Nat → Int32} {x t k z : Int32} {q : Int64 × Int64} (e : tabW f20 f21 f22 x t k = q) (h : z = f22 (slN x t k)) (hb : 1 ≤ (f21 (slN x t k)).toInt) : z.toInt = 0 ↔ ¬ q.2.toInt = 0 := by
  rw [← e, tab_mu hb, h]
  exact ⟨fun a b => b a, fun a => Classical.not_not.mp a⟩
theorem cm_of {f20 f21 : Nat → Int64} {f22 : Nat → Int32} {x t k y t' k' r : Int32} {p q : Int64 × Int64} (e1 : tabW f20 f21 f22 x t k = p) (e2 : tabW f20 f21 f22 y t' k' = q) (hb1 : 1 ≤ (f21 (slN x t k)).toInt) (hb2 : 1 ≤ (f21 (slN y t' k')).toInt) (h : r.toInt = cmpW (f20 (slN x t k)).toInt (f21 (slN x t k)).toInt (f20 (slN y t' k')).toInt (f21 (slN y t' k')).toInt) (n1 : ¬ p.2.toInt = 0) (n2 : ¬ q.2.toInt = 0) : cmpP p q = r.toInt := by
  have m1 : (f22 (slN x t k)).toInt = 0 := by
    rw [← e1, tab_mu hb1] at n1
    exact Classical.not_not.mp n1
  have m2 : (f22 (slN y t' k')).toInt = 0 := by
    rw [← e2, tab_mu hb2] at n2
    exact Classical.not_not.mp n2
  rw [← e1, ← e2, tab_cmp m1 m2, h]
theorem m0_of {f20 f21 : Nat → Int64} {f22 : Nat → Int32} {x t k z : Int32} {q : Int64 × Int64} (e : tabW f20 f21 f22 x t k = q) (h : z = f22 (slN x t k)) (c : ¬ z.toInt = 0) : q.2.toInt = 0 := by
  rw [← e]
  exact tab_m0 (by rw [← h]; exact c)
theorem m1_of {f20 f21 : Nat → Int64} {f22 : Nat → Int32} {x t k z : Int32} {q : Int64 × Int64} (e : tabW f20 f21 f22 x t k = q) (h : z = f22 (slN x t k)) (hb : 1 ≤ (f21 (slN x t k)).toInt) (c : z.toInt = 0) : ¬ q.2.toInt = 0 := (mz_iff e h hb).1 c
/-! alike, slot by slot -/
theorem sl_ex (x : Int32) : ∀ j : Nat, j < 28 → ∃ t k : Int32, spK t k ∧ slN x t k = 28 * x.toNatClampNeg + j := by
  intro j hj
  have key : ∀ a : Fin 28, ∃ b : Fin 7, ∃ c : Fin 7, c.val ≤ b.val ∧ trN b.val + c.val = a.val := by decide +kernel
  obtain ⟨b, c, h1, h2⟩ := key ⟨j, hj⟩
  have hb := b.isLt
  have hc := c.isLt
  refine ⟨nI b.val, nI c.val, ⟨?_, ?_⟩, ?_⟩
  · rw [nI_toInt (by omega)]
    omega
  · rw [nI_toInt (by omega), nI_toInt (by omega)]
    omega
  · unfold slN
    rw [nI_clamp (by omega), nI_clamp (by omega)]
    have h2 : trN b.val + c.val = j := h2
    omega
theorem sl_j {x t k : Int32} (g : spK t k) : ∃ j : Nat, j < 28 ∧ slN x t k = 28 * x.toNatClampNeg + j := by
  obtain ⟨⟨a, b⟩, c, d⟩ := g
  have h2 := tn a
  have h3 := tn c
  have h4 := trN_le (t := t.toNatClampNeg) (by omega)
  exact ⟨trN t.toNatClampNeg + k.toNatClampNeg, by omega, by unfold slN; omega⟩
/-- behind m slots of both -/
def akI (g0 g1 : Nat → Int64) (g2 : Nat → Int32) (E : Prop) (a b m : Nat) (ov is : Int32) : Prop := ((ov.toInt = 0 ∧ ∀ j : Nat, j < m → (g2 (a + j)).toInt = 0 ∧ (g2 (b + j)).toInt = 0) ∨ (¬ ov.toInt = 0 ∧ ∃ j : Nat, j < m ∧ (¬ (g2 (a + j)).toInt = 0 ∨ ¬ (g2 (b + j)).toInt = 0))) ∧ ((is.toInt = 1 ∧ E ∧ ∀ j : Nat, j < m → g0 (a + j) = g0 (b + j) ∧ g1 (a + j) = g1 (b + j)) ∨ (is.toInt = 0 ∧ ¬ (E ∧ ∀ j : Nat, j < m → g0 (a + j) = g0 (b + j) ∧ g1 (a + j) = g1 (b + j))))
theorem akI_0y {g0 g1 : Nat → Int64} {g2 : Nat → Int32} {E : Prop} {a b : Nat} (h : E) : akI g0 g1 g2 E a b 0 0 1 := ⟨Or.inl ⟨ti_0, fun j h => absurd h (Nat.not_lt_zero j)⟩, Or.inl ⟨ti_1, h, fun j h => absurd h (Nat.not_lt_zero j)⟩⟩
theorem akI_0n {g0 g1 : Nat → Int64} {g2 : Nat → Int32} {E : Prop} {a b : Nat} (h : ¬ E) : akI g0 g1 g2 E a b 0 0 0 := ⟨Or.inl ⟨ti_0, fun j h => absurd h (Nat.not_lt_zero j)⟩, Or.inr ⟨ti_0, fun q => h q.1⟩⟩
theorem akI_step {g0 g1 : Nat → Int64} {g2 : Nat → Int32} {E : Prop} {a b m : Nat} {ov is o' i' : Int32} (h : akI g0 g1 g2 E a b m ov is) (ho : (o'.toInt = 0 ∧ ov.toInt = 0 ∧ (g2 (a + m)).toInt = 0 ∧ (g2 (b + m)).toInt = 0) ∨ (¬ o'.toInt = 0 ∧ (¬ ov.toInt = 0 ∨ ¬ (g2 (a + m)).toInt = 0 ∨ ¬ (g2 (b + m)).toInt = 0))) (hi : (i'.toInt = is.toInt ∧ g0 (a + m) = g0 (b + m) ∧ g1 (a + m) = g1 (b + m)) ∨ (i'.toInt = 0 ∧ ¬ (g0 (a + m) = g0 (b + m) ∧ g1 (a + m) = g1 (b + m)))) : akI g0 g1 g2 E a b (m + 1) o' i' := by
  obtain ⟨h1, h2⟩ := h
  refine ⟨?_, ?_⟩
  · rcases ho with ⟨c1, c2, c3, c4⟩ | ⟨c1, c2⟩
    · have h1 := (h1.resolve_right (fun q => q.1 c2)).2
      refine Or.inl ⟨c1, fun j hj => ?_⟩
      by_cases e : j = m
      · subst e
        exact ⟨c3, c4⟩
      · exact h1 j (by omega)
    · refine Or.inr ⟨c1, ?_⟩
      rcases c2 with c2 | c2 | c2
      · obtain ⟨_, j, q1, q2⟩ := h1.resolve_left (fun q => c2 q.1)
        exact ⟨j, by omega, q2⟩
      · exact ⟨m, by omega, Or.inl c2⟩
      · exact ⟨m, by omega, Or.inr c2⟩
  · rcases hi with ⟨c1, c2⟩ | ⟨c1, c2⟩
    · rcases h2 with ⟨d1, d2, d3⟩ | ⟨d1, d2⟩
      · refine Or.inl ⟨by omega, d2, fun j hj => ?_⟩
        by_cases e : j = m
        · subst e
          exact c2
        · exact d3 j (by omega)
      · exact Or.inr ⟨by omega, fun q => d2 ⟨q.1, fun j hj => q.2 j (by omega)⟩⟩
    · exact Or.inr ⟨c1, fun q => c2 (q.2 m (by omega))⟩
theorem akI_end {g0 g1 : Nat → Int64} {g2 : Nat → Int32} {V : vaF} {fe : Nat → Int32} {n x y ov is r : Int32} (hv : (0 ≤ x.toInt ∧ x.toInt < n.toInt) ∧ 0 ≤ y.toInt ∧ y.toInt < n.toInt) (hV : ∀ t s : Int32, spK t s → tabW g0 g1 g2 x t s = V x t s ∧ tabW g0 g1 g2 y t s = V y t s) (hb : ∀ t s : Int32, spK t s → 1 ≤ (g1 (slN x t s)).toInt ∧ 1 ≤ (g1 (slN y t s)).toInt) (h : akI g0 g1 g2 ((fe x.toNatClampNeg).toInt = (fe y.toNatClampNeg).toInt) (28 * x.toNatClampNeg) (28 * y.toNatClampNeg) 28 ov is) (hr : (¬ ov.toInt = 0 ∧ r.toInt = -5) ∨ (ov.toInt = 0 ∧ ((is.toInt = 0 ∧ r.toInt = 0) ∨ (¬ is.toInt = 0 ∧ r.toInt = 1)))) : alkQ V fe n x y r := by
  obtain ⟨h1, h2⟩ := h
  refine Or.inr ⟨hv, ?_⟩
  rcases h1 with ⟨c1, c2⟩ | ⟨c1, j, c2, c3⟩
  · have hr := (hr.resolve_left (fun q => q.1 c1)).2
    have hz : ∀ t s : Int32, spK t s → (g2 (slN x t s)).toInt = 0 ∧ (g2 (slN y t s)).toInt = 0 := fun t s g => by
      obtain ⟨j, j1, j2⟩ := sl_j (x := x) g
      have j3 : slN y t s = 28 * y.toNatClampNeg + j := by unfold slN at j2 ⊢; omega
      rw [j2, j3]
      exact c2 j j1
    refine Or.inr ⟨fun t s g q => ?_, ?_⟩
    · unfold mu2 at q
      rw [← (hV t s g).1, ← (hV t s g).2] at q
      rcases q with q | q
      · exact tab_m1 (hz t s g).1 (hb t s g).1 q
      · exact tab_m1 (hz t s g).2 (hb t s g).2 q
    · have he : (∀ j : Nat, j < 28 → g0 (28 * x.toNatClampNeg + j) = g0 (28 * y.toNatClampNeg + j) ∧ g1 (28 * x.toNatClampNeg + j) = g1 (28 * y.toNatClampNeg + j)) ↔ ∀ t s : Int32, spK t s → V x t s = V y t s := by
        constructor
        · intro q t s g
          obtain ⟨j, j1, j2⟩ := sl_j (x := x) g
          have j3 : slN y t s = 28 * y.toNatClampNeg + j := by unfold slN at j2 ⊢; omega
          rw [← (hV t s g).1, ← (hV t s g).2, tab_y (hz t s g).1, tab_y (hz t s g).2, j2, j3, (q j j1).1, (q j j1).2]
        · intro q j hj
          obtain ⟨t, s, g, e⟩ := sl_ex x j hj
          have e2 : slN y t s = 28 * y.toNatClampNeg + j := by unfold slN at e ⊢; omega
          have q := q t s g
          rw [← (hV t s g).1, ← (hV t s g).2, tab_y (hz t s g).1, tab_y (hz t s g).2, e, e2] at q
          exact ⟨congrArg Prod.fst q, congrArg Prod.snd q⟩
      rcases h2 with ⟨d1, d2, d3⟩ | ⟨d1, d2⟩
      · exact Or.inl ⟨⟨d2, he.1 d3⟩, (hr.resolve_left (fun q => by omega)).2⟩
      · exact Or.inr ⟨fun q => d2 ⟨q.1, he.2 q.2⟩, (hr.resolve_right (fun q => q.1 d1)).2⟩
  · have hr := (hr.resolve_right (fun q => c1 q.1)).2
    obtain ⟨t, s, g, e⟩ := sl_ex x j c2
    have e2 : slN y t s = 28 * y.toNatClampNeg + j := by unfold slN at e ⊢; omega
    refine Or.inl ⟨⟨t, s, g, ?_⟩, hr⟩
    unfold mu2
    rw [← (hV t s g).1, ← (hV t s g).2]
    rcases c3 with c3 | c3
    · exact Or.inl (tab_m0 (by rw [e]; exact c3))
    · exact Or.inr (tab_m0 (by rw [e2]; exact c3))
theorem ak_ix {x k : Int32} (hx : 0 ≤ x.toInt ∧ x.toInt < 24) (hk : 0 ≤ k.toInt ∧ k.toInt < 28) : ((28 * x) + k).toNatClampNeg = 28 * x.toNatClampNeg + k.toNatClampNeg := by
  have e28 : (28 : Int32).toInt = 28 := by decide
  have e : (28 * x).toInt = 28 * x.toInt := by rw [fb_mulI (by rw [e28]; omega) (by rw [e28]; omega), e28]
  have e2 : ((28 * x) + k).toInt = 28 * x.toInt + k.toInt := by rw [fb_addI (by rw [e]; omega) (by rw [e]; omega), e]
  have t1 := tn hx.1
  have t2 := tn hk.1
  have t3 := tn (x := (28 * x) + k) (by omega)
  omega
theorem isBand1 {x : Int32} (h : isB x) : x &&& 1 = x := by
  rcases h with rfl | rfl <;> decide
theorem isBand0 {x : Int32} (h : isB x) : x &&& 0 = 0 := by
  rcases h with rfl | rfl <;> decide
/-- what lies in a bag of the row -/
def gbB (f : Nat → Int32) (b : Int32) : Nat → Int32 := fun i => f (12 * b.toNatClampNeg + i)
theorem cp_of {f20 f21 : Nat → Int64} {f22 : Nat → Int32} {x t k : Int32} {q : Int64 × Int64} {c d : Int64} (e : tabW f20 f21 f22 x t k = q) (h0 : (f22 (slN x t k)).toInt = 0) : cmpP q (c, d) = cmpW (f20 (slN x t k)).toInt (f21 (slN x t k)).toInt c.toInt d.toInt := by
  rw [← e, tab_y h0]
  rfl
