section
theorem dX2_kindOf_0 : decode cX2_kindOf 0 = .ok (.getstatic 41, 3) := by decide +kernel
theorem dX2_kindOf_10 : decode cX2_kindOf 10 = .ok (.areturn, 1) := by decide +kernel
theorem dX2_kindOf_3 : decode cX2_kindOf 3 = .ok (.aload_n 0, 1) := by decide +kernel
theorem dX2_kindOf_4 : decode cX2_kindOf 4 = .ok (.getfield 15, 3) := by decide +kernel
theorem dX2_kindOf_7 : decode cX2_kindOf 7 = .ok (.iload_n 1, 1) := by decide +kernel
theorem dX2_kindOf_8 : decode cX2_kindOf 8 = .ok (.iaload, 1) := by decide +kernel
theorem dX2_kindOf_9 : decode cX2_kindOf 9 = .ok (.aaload, 1) := by decide +kernel
set_option maxRecDepth 20000 in
theorem in_X2_kindOf_X2 : ∀ w ∈ wsX20, w ∈ wsX2_kindOf := sub_r [2, 3, 4, 5, 6, 7, 8, 9] rfl
set_option maxHeartbeats 4000000 in
set_option maxRecDepth 100000 in
theorem c_X2_kindOf (l : Launch) (D : va_G) (T : Nat → ClassId) (ad sa av : Nat → Nat) (ta : Nat) (h0 : Nat) (fs0 : List Value) (h1 : Nat) (f1 : Nat → Int32) (x1 : Int32) (e0_1 : fs0[1]? = some (.ref h1)) (hx : 0 ≤ x1.toInt ∧ x1.toInt < 24) (hk : 0 ≤ (f1 (x1.toNatClampNeg)).toInt ∧ (f1 (x1.toNatClampNeg)).toInt ≤ 12) : Met l yX2_kindOf wsX2_kindOf ({ frames := 0, cells := 0, slots := 0, locals := 0 }) (pRk [.ref h0, .int x1] D T [(h0, .inr (1, fs0)), (h1, .inl (T 0, 24, .inl f1))] ad sa av ta) (va_Se ad (fun r => r = some ((f1 (x1.toNatClampNeg)).toNatClampNeg))) 0 0 (fun _ => False) := by
  refine Met.ofW (cc := cX2_kindOf) (maxL := 2) (ret := (some (.object "ClauseBook$Kind"))) (by decide +kernel) rfl ?_
  intro p e s m args below meth c s₁ B hml hv
  obtain ⟨rfl, hP, hE, hV⟩ := hv
  have hS : va_S (fun _ => False) s.heap s.heap [] := va_S.rf
  have hx := B.exec
  have hb := B.bytes
  have hr := B.returns
  have hts := atoms_spec (ws := wsX2_kindOf) B.pre
  have hown : s.vm.findClass RX2 = some m.cls := findClass_of_methodNamed B.named
  have hlocks := B.notSynchronized
  have hP : va_P D vwCl [(h0, .inr (1, fs0)), (h1, .inl (T 0, 24, .inl f1))] s.heap := hP
  have hl := lv_entry ([.ref h0, .int x1]) (n := 2) (Nat.le_of_ble_eq_true rfl)
  rw [lg_entry_eq]
  generalize (lg_sl ([.ref h0, .int x1]) ++ List.replicate (2 - (lg_sl ([.ref h0, .int x1])).length) Slot.unset).toArray = ls at hl ⊢
  have hl : lv_has ls 2 [(0, .ref h0), (1, .int x1)] := hl
  refine va_getsN (v := .ref ta) hx hb hV.1.2.1 hS hown (va_Nw.use rfl (hE.2.2.1 (RX2, 41) (List.mem_of_getElem? (i := 1) rfl))) (fun _ h9 => h9) dX2_kindOf_0 ?_
  refine lv_aload_n hx hb dX2_kindOf_3 rfl (lv_at hl 0 rfl) ?_
  refine va_get (D := D) (ci := 1) (v := .ref h1) (C := RX2) (T := TX2) (N := 8) hx hb hts in_X2_kindOf_X2 hown hE.1 hP 0 rfl rfl 1 (by decide +kernel) (hts (.fieldLink RX2 15 "ClauseBook$Clauses" "kind" "[I") (List.mem_of_getElem? (i := 1) rfl)) (fun _ h9 => h9) e0_1 dX2_kindOf_4 ?_
  refine lv_iload_n hx hb dX2_kindOf_7 rfl (lv_at hl 1 rfl) ?_
  refine va_iald hx hb hE.1 hP 1 0 rfl rfl (by rw [vp_in_iff]; omega) dX2_kindOf_8 ?_
  refine vb_tq (v := .ref (ad ((f1 x1.toNatClampNeg).toNatClampNeg))) hx hb hV.1.2.2 hS (by rw [vp_in_iff]; omega) rfl dX2_kindOf_9 ?_
  exact W.aret (v := .ref (ad ((f1 x1.toNatClampNeg).toNatClampNeg))) hx hb hr (Or.inl ⟨_, rfl⟩) (Or.inr ⟨_, rfl⟩) (fun t ht hW => ⟨some ((f1 (x1.toNatClampNeg)).toNatClampNeg), rfl, rfl, ht⟩) (fun _ h => by cases h) dX2_kindOf_10
/-! ends, how many, how deep: what stands at a clause follows from what it names -/
def endB (fk fc fd fe : Nat → Int32) (j : Nat) : Int := if (nmT (fk j).toNatClampNeg).toInt = 0 then 6 else if (nmT (fk j).toNatClampNeg).toInt = 2 then max (fe (fc j).toNatClampNeg).toInt (fe (fd j).toNatClampNeg).toInt else (fe (fc j).toNatClampNeg).toInt
def mesE (fk fn fc fd fe : Nat → Int32) (j : Nat) : Int := if (fk j).toNatClampNeg = 8 then min (endB fk fc fd fe j) (fn j).toInt else endB fk fc fd fe j
def mesM (fk fc fd fm : Nat → Int32) (j : Nat) : Int32 := if (nmT (fk j).toNatClampNeg).toInt = 0 then 1 else if (nmT (fk j).toNatClampNeg).toInt = 2 then (1 + fm (fc j).toNatClampNeg) + fm (fd j).toNatClampNeg else 1 + fm (fc j).toNatClampNeg
def mesD (fk fc fd fp : Nat → Int32) (j : Nat) : Int32 := if (nmT (fk j).toNatClampNeg).toInt = 0 then 1 else if (nmT (fk j).toNatClampNeg).toInt = 2 then (if (fp (fc j).toNatClampNeg).toInt < (fp (fd j).toNatClampNeg).toInt then fp (fd j).toNatClampNeg else fp (fc j).toNatClampNeg) + 1 else fp (fc j).toNatClampNeg + 1
def mesP (fk fn fc fd fe fm fp : Nat → Int32) (j : Nat) : Prop := (fe j).toInt = mesE fk fn fc fd fe j ∧ fm j = mesM fk fc fd fm j ∧ fp j = mesD fk fc fd fp j
theorem mes_same {fk gk fn gn fc gc fd gd fe ge fm gm fp gp : Nat → Int32} {j : Nat} (hk : fk j = gk j) (hn : fn j = gn j) (hc : 1 ≤ (nmT (fk j).toNatClampNeg).toInt → fc j = gc j ∧ fe (fc j).toNatClampNeg = ge (fc j).toNatClampNeg ∧ fm (fc j).toNatClampNeg = gm (fc j).toNatClampNeg ∧ fp (fc j).toNatClampNeg = gp (fc j).toNatClampNeg) (hd : (nmT (fk j).toNatClampNeg).toInt = 2 → fd j = gd j ∧ fe (fd j).toNatClampNeg = ge (fd j).toNatClampNeg ∧ fm (fd j).toNatClampNeg = gm (fd j).toNatClampNeg ∧ fp (fd j).toNatClampNeg = gp (fd j).toNatClampNeg) : mesE fk fn fc fd fe j = mesE gk gn gc gd ge j ∧ mesM fk fc fd fm j = mesM gk gc gd gm j ∧ mesD fk fc fd fp j = mesD gk gc gd gp j := by
  unfold mesE endB mesM mesD
  rw [← hk, ← hn]
  have hN := nmT_in (fk j).toNatClampNeg
  by_cases h0 : (nmT (fk j).toNatClampNeg).toInt = 0
  · simp only [if_pos h0]
    refine ⟨?_, ?_, ?_⟩ <;> first | rfl | trivial
  · have hc := hc (by omega)
    simp only [if_neg h0]
    rw [← hc.1, ← hc.2.1, ← hc.2.2.1, ← hc.2.2.2]
    by_cases h2 : (nmT (fk j).toNatClampNeg).toInt = 2
    · have hd := hd h2
      simp only [if_pos h2]
      rw [← hd.1, ← hd.2.1, ← hd.2.2.1, ← hd.2.2.2]
      refine ⟨?_, ?_, ?_⟩ <;> first | rfl | trivial
    · simp only [if_neg h2]
      refine ⟨?_, ?_, ?_⟩ <;> first | rfl | trivial
/-- what is named stands earlier -/
def okN (fk fc fd : Nat → Int32) (n : Nat) : Prop := ∀ j : Nat, j < n → (1 ≤ (nmT (fk j).toNatClampNeg).toInt → 0 ≤ (fc j).toInt ∧ (fc j).toInt < j) ∧ ((nmT (fk j).toNatClampNeg).toInt = 2 → 0 ≤ (fd j).toInt ∧ (fd j).toInt < j)
theorem okC.N {fk fc fd fe : Nat → Int32} (h : okC fk fc fd fe) : okN fk fc fd 24 := fun j hj => ⟨(h j hj).2.1, (h j hj).2.2.1⟩
theorem mes_uniq {fk gk fn gn fc gc fd gd fe ge fm gm fp gp : Nat → Int32} {n : Nat} (ok : okN fk fc fd n) (h : ∀ j : Nat, j < n → fk j = gk j ∧ fn j = gn j ∧ (1 ≤ (nmT (fk j).toNatClampNeg).toInt → fc j = gc j) ∧ ((nmT (fk j).toNatClampNeg).toInt = 2 → fd j = gd j)) (a : ∀ j : Nat, j < n → mesP fk fn fc fd fe fm fp j) (b : ∀ j : Nat, j < n → mesP gk gn gc gd ge gm gp j) : ∀ (m j : Nat), j < m → j < n → fe j = ge j ∧ fm j = gm j ∧ fp j = gp j
  | 0, j, hj, _ => absurd hj (Nat.not_lt_zero j)
  | m + 1, j, hj, hn => by
    have ih := mes_uniq ok h a b m
    obtain ⟨h1, h2, h3, h4⟩ := h j hn
    obtain ⟨o1, o2⟩ := ok j hn
    obtain ⟨e1, e2, e3⟩ := mes_same (fe := fe) (ge := ge) (fm := fm) (gm := gm) (fp := fp) (gp := gp) h1 h2 (fun q => by
      have c := o1 q
      have t := tn c.1
      have i := ih (fc j).toNatClampNeg (by omega) (by omega)
      exact ⟨h3 q, i.1, i.2.1, i.2.2⟩) (fun q => by
      have c := o2 q
      have t := tn c.1
      have i := ih (fd j).toNatClampNeg (by omega) (by omega)
      exact ⟨h4 q, i.1, i.2.1, i.2.2⟩)
    obtain ⟨a1, a2, a3⟩ := a j hn
    obtain ⟨b1, b2, b3⟩ := b j hn
    exact ⟨Int32.toInt_inj.1 (by rw [a1, b1, e1]), by rw [a2, b2, e2], by rw [a3, b3, e3]⟩
/-- those ahead of x don't look at x -/
theorem mes_ahead {fk gk fn gn fc gc fd gd fe ge fm gm fp gp : Nat → Int32} {x : Nat} (ok : okN fk fc fd x) (h : ∀ j : Nat, j < x → gk j = fk j ∧ gn j = fn j ∧ gc j = fc j ∧ gd j = fd j ∧ ge j = fe j ∧ gm j = fm j ∧ gp j = fp j) (a : ∀ j : Nat, j < x → mesP fk fn fc fd fe fm fp j) : ∀ j : Nat, j < x → mesP gk gn gc gd ge gm gp j := by
  intro j hj
  obtain ⟨h1, h2, h3, h4, h5, h6, h7⟩ := h j hj
  obtain ⟨o1, o2⟩ := ok j hj
  obtain ⟨e1, e2, e3⟩ := mes_same (gk := gk) (gn := gn) (gc := gc) (gd := gd) (fe := fe) (ge := ge) (fm := fm) (gm := gm) (fp := fp) (gp := gp) h1.symm h2.symm (fun q => by
    have c := o1 q
    have t := tn c.1
    obtain ⟨-, -, -, -, i5, i6, i7⟩ := h (fc j).toNatClampNeg (by omega)
    exact ⟨h3.symm, i5.symm, i6.symm, i7.symm⟩) (fun q => by
    have c := o2 q
    have t := tn c.1
    obtain ⟨-, -, -, -, i5, i6, i7⟩ := h (fd j).toNatClampNeg (by omega)
    exact ⟨h4.symm, i5.symm, i6.symm, i7.symm⟩)
  obtain ⟨a1, a2, a3⟩ := a j hj
  exact ⟨by rw [h5, a1, e1], by rw [h6, a2, e2], by rw [h7, a3, e3]⟩
theorem mes_step {fk fn fc fd fe fm fp : Nat → Int32} {x : Nat} {v m p : Int32} (ok : okN fk fc fd (x + 1)) (a : ∀ j : Nat, j < x → mesP fk fn fc fd fe fm fp j) (hv : v.toInt = mesE fk fn fc fd fe x) (hm : m = mesM fk fc fd fm x) (hp : p = mesD fk fc fd fp x) : ∀ j : Nat, j < x + 1 → mesP fk fn fc fd (upd fe x v) (upd fm x m) (upd fp x p) j := by
  intro j hj
  by_cases e : j = x
  · subst e
    obtain ⟨o1, o2⟩ := ok j hj
    obtain ⟨e1, e2, e3⟩ := mes_same (fk := fk) (gk := fk) (fn := fn) (gn := fn) (fc := fc) (gc := fc) (fd := fd) (gd := fd) (fe := fe) (ge := upd fe j v) (fm := fm) (gm := upd fm j m) (fp := fp) (gp := upd fp j p) (j := j) rfl rfl (fun q => by
      have c := o1 q
      have t := tn c.1
      have i : ¬ (fc j).toNatClampNeg = j := by omega
      simp only [upd, if_neg i]
      refine ⟨?_, ?_, ?_, ?_⟩ <;> first | rfl | trivial) (fun q => by
      have c := o2 q
      have t := tn c.1
      have i : ¬ (fd j).toNatClampNeg = j := by omega
      simp only [upd, if_neg i]
      refine ⟨?_, ?_, ?_, ?_⟩ <;> first | rfl | trivial)
    unfold mesP
    rw [← e1, ← e2, ← e3]
    simp only [upd, if_pos]
    exact ⟨hv, hm, hp⟩
  · exact mes_ahead (x := x) (fun j hj => ok j (by omega)) (fun j hj => by
      have i : ¬ j = x := by omega
      simp only [upd, if_neg i]
      refine ⟨?_, ?_, ?_, ?_, ?_, ?_, ?_⟩ <;> first | rfl | trivial) a j (by omega)
/-! measure(x), by what it reads -/
def mesQ (fk fn fc fd fe fm fp : Nat → Int32) (x : Int32) (ge gm gp : Nat → Int32) : Prop := ∃ v m p : Int32, ge = upd fe x.toNatClampNeg v ∧ gm = upd fm x.toNatClampNeg m ∧ gp = upd fp x.toNatClampNeg p ∧ v.toInt = mesE fk fn fc fd fe x.toNatClampNeg ∧ m = mesM fk fc fd fm x.toNatClampNeg ∧ p = mesD fk fc fd fp x.toNatClampNeg
theorem imax_t {a b : Int32} : (if a < b then b else a).toInt = max a.toInt b.toInt := by
  by_cases h : a < b
  · rw [if_pos h]
    rw [fa_lt] at h
    omega
  · rw [if_neg h]
    rw [fa_lt] at h
    omega
theorem imin_t {a b : Int32} : (if b < a then b else a).toInt = min a.toInt b.toInt := by
  by_cases h : b < a
  · rw [if_pos h]
    rw [fa_lt] at h
    omega
  · rw [if_neg h]
    rw [fa_lt] at h
    omega
theorem endB_0 {fk fc fd fe : Nat → Int32} {j : Nat} (h : (nmT (fk j).toNatClampNeg).toInt = 0) : (6 : Int32).toInt = endB fk fc fd fe j := by
  unfold endB
  rw [if_pos h]
  decide
theorem endB_1 {fk fc fd fe : Nat → Int32} {j : Nat} {e c : Int32} (h : (nmT (fk j).toNatClampNeg).toInt = 1) (he : e = fe c.toNatClampNeg) (hc : c = fc j) : e.toInt = endB fk fc fd fe j := by
  unfold endB
  rw [if_neg (by omega), if_neg (by omega), he, hc]
theorem endB_2 {fk fc fd fe : Nat → Int32} {j : Nat} {v e c e2 d : Int32} (h : (nmT (fk j).toNatClampNeg).toInt = 2) (hv : v = if e < e2 then e2 else e) (he : e = fe c.toNatClampNeg) (hc : c = fc j) (he2 : e2 = fe d.toNatClampNeg) (hd : d = fd j) : v.toInt = endB fk fc fd fe j := by
  unfold endB
  rw [if_neg (by omega), if_pos h, hv, imax_t, he, he2, hc, hd]
theorem mesE_no {fk fn fc fd fe : Nat → Int32} {j : Nat} {v : Int32} (hk : ¬ (fk j).toNatClampNeg = 8) (hb : v.toInt = endB fk fc fd fe j) : v.toInt = mesE fk fn fc fd fe j := by
  unfold mesE
  rw [if_neg hk]
  exact hb
theorem mesE_yes {fk fn fc fd fe : Nat → Int32} {j : Nat} {v b n : Int32} (hk : (fk j).toNatClampNeg = 8) (hb : b.toInt = endB fk fc fd fe j) (hv : v = if n < b then n else b) (hn : n = fn j) : v.toInt = mesE fk fn fc fd fe j := by
  unfold mesE
  rw [if_pos hk, hv, imin_t, hb, hn]
theorem mesM_0 {fk fc fd fm : Nat → Int32} {j : Nat} (h : (nmT (fk j).toNatClampNeg).toInt = 0) : (1 : Int32) = mesM fk fc fd fm j := by
  unfold mesM
  rw [if_pos h]
theorem mesM_1 {fk fc fd fm : Nat → Int32} {j : Nat} {s m c : Int32} (h : (nmT (fk j).toNatClampNeg).toInt = 1) (hs : s = 1 + m) (hm : m = fm c.toNatClampNeg) (hc : c = fc j) : s = mesM fk fc fd fm j := by
  unfold mesM
  rw [if_neg (by omega), if_neg (by omega), hs, hm, hc]
theorem mesM_2 {fk fc fd fm : Nat → Int32} {j : Nat} {t s m c m2 d : Int32} (h : (nmT (fk j).toNatClampNeg).toInt = 2) (ht : t = s + m2) (hs : s = 1 + m) (hm : m = fm c.toNatClampNeg) (hc : c = fc j) (hm2 : m2 = fm d.toNatClampNeg) (hd : d = fd j) : t = mesM fk fc fd fm j := by
  unfold mesM
  rw [if_neg (by omega), if_pos h, ht, hs, hm, hm2, hc, hd]
theorem mesD_0 {fk fc fd fp : Nat → Int32} {j : Nat} (h : (nmT (fk j).toNatClampNeg).toInt = 0) : (1 : Int32) = mesD fk fc fd fp j := by
  unfold mesD
  rw [if_pos h]
theorem mesD_1 {fk fc fd fp : Nat → Int32} {j : Nat} {p c : Int32} (h : (nmT (fk j).toNatClampNeg).toInt = 1) (hp : p = fp c.toNatClampNeg) (hc : c = fc j) : p + 1 = mesD fk fc fd fp j := by
  unfold mesD
  rw [if_neg (by omega), if_neg (by omega), hp, hc]
theorem mesD_2 {fk fc fd fp : Nat → Int32} {j : Nat} {v p c p2 d : Int32} (h : (nmT (fk j).toNatClampNeg).toInt = 2) (hv : v = if p < p2 then p2 else p) (hp : p = fp c.toNatClampNeg) (hc : c = fc j) (hp2 : p2 = fp d.toNatClampNeg) (hd : d = fd j) : v + 1 = mesD fk fc fd fp j := by
  unfold mesD
  rw [if_neg (by omega), if_pos h, hv, hp, hp2, hc, hd]
  by_cases q : fp (fc j).toNatClampNeg < fp (fd j).toNatClampNeg
  · rw [if_pos q, if_pos (by rw [← fa_lt]; exact q)]
  · rw [if_neg q, if_neg (by rw [← fa_lt]; exact q)]
theorem okC.Nx {fk fc fd fe : Nat → Int32} (h : okC fk fc fd fe) {n : Nat} (hn : n ≤ 24) : okN fk fc fd n := fun j hj => ⟨(h j (by omega)).2.1, (h j (by omega)).2.2.1⟩
theorem mes_loop {fk fn fc fd fe fm fp ge gm gp : Nat → Int32} {ii i' : Int32} (hok : okC fk fc fd fe) (h0 : 0 ≤ ii.toInt ∧ ii.toInt < 24) (hi : i'.toInt = ii.toInt + 1) (a : ∀ j : Nat, (j : Int) < ii.toInt → mesP fk fn fc fd fe fm fp j) (q : mesQ fk fn fc fd fe fm fp ii ge gm gp) : ∀ j : Nat, (j : Int) < i'.toInt → mesP fk fn fc fd ge gm gp j := by
  obtain ⟨v, m, p, e1, e2, e3, h1, h2, h3⟩ := q
  have t := tn h0.1
  intro j hj
  rw [e1, e2, e3]
  exact mes_step (hok.Nx (by omega)) (fun j hj => a j (by omega)) h1 h2 h3 j (by omega)
/-- another kind, number at n: those ahead of it stay as they are -/
theorem mes_kn {fk fn fc fd fe fm fp : Nat → Int32} {n k v : Int32} (hok : okC fk fc fd fe) (hn : 0 ≤ n.toInt ∧ n.toInt ≤ 24) (a : ∀ j : Nat, (j : Int) < n.toInt → mesP fk fn fc fd fe fm fp j) : ∀ j : Nat, (j : Int) < n.toInt → mesP (upd fk n.toNatClampNeg k) (upd fn n.toNatClampNeg v) fc fd fe fm fp j := by
  have t := tn hn.1
  intro j hj
  exact mes_ahead (x := n.toNatClampNeg) (hok.Nx (by omega)) (fun j hj => by
    have i : ¬ j = n.toNatClampNeg := by omega
    simp only [upd, if_neg i]
    refine ⟨?_, ?_, ?_, ?_, ?_, ?_, ?_⟩ <;> first | rfl | trivial) (fun j hj => a j (by omega)) j (by omega)
/-- other names at x: those ahead of it stay as they are -/
theorem mes_cd {fk fn fc fd fe fm fp : Nat → Int32} {x c d : Int32} (hok : okN fk fc fd x.toNatClampNeg) (hx : 0 ≤ x.toInt) (a : ∀ j : Nat, (j : Int) < x.toInt → mesP fk fn fc fd fe fm fp j) : ∀ j : Nat, (j : Int) < x.toInt → mesP fk fn (upd fc x.toNatClampNeg c) (upd fd x.toNatClampNeg d) fe fm fp j := by
  have t := tn hx
  intro j hj
  exact mes_ahead (x := x.toNatClampNeg) hok (fun j hj => by
    have i : ¬ j = x.toNatClampNeg := by omega
    simp only [upd, if_neg i]
    refine ⟨?_, ?_, ?_, ?_, ?_, ?_, ?_⟩ <;> first | rfl | trivial) (fun j hj => a j (by omega)) j (by omega)
theorem dX2_measure_0 : decode cX2_measure 0 = .ok (.aload_n 0, 1) := by decide +kernel
theorem dX2_measure_1 : decode cX2_measure 1 = .ok (.iload_n 1, 1) := by decide +kernel
theorem dX2_measure_101 : decode cX2_measure 101 = .ok (.iload 5, 2) := by decide +kernel
theorem dX2_measure_103 : decode cX2_measure 103 = .ok (.aload_n 0, 1) := by decide +kernel
theorem dX2_measure_104 : decode cX2_measure 104 = .ok (.getfield 34, 3) := by decide +kernel
theorem dX2_measure_107 : decode cX2_measure 107 = .ok (.aload_n 0, 1) := by decide +kernel
theorem dX2_measure_108 : decode cX2_measure 108 = .ok (.getfield 25, 3) := by decide +kernel
theorem dX2_measure_11 : decode cX2_measure 11 = .ok (.istore_n 3, 1) := by decide +kernel
theorem dX2_measure_111 : decode cX2_measure 111 = .ok (.iload_n 1, 1) := by decide +kernel
theorem dX2_measure_112 : decode cX2_measure 112 = .ok (.iaload, 1) := by decide +kernel
theorem dX2_measure_113 : decode cX2_measure 113 = .ok (.iaload, 1) := by decide +kernel
theorem dX2_measure_114 : decode cX2_measure 114 = .ok (.invokestatic 62, 3) := by decide +kernel
theorem dX2_measure_117 : decode cX2_measure 117 = .ok (.istore 5, 2) := by decide +kernel
theorem dX2_measure_119 : decode cX2_measure 119 = .ok (.aload_n 0, 1) := by decide +kernel
theorem dX2_measure_12 : decode cX2_measure 12 = .ok (.iconst 1, 1) := by decide +kernel
theorem dX2_measure_120 : decode cX2_measure 120 = .ok (.iload_n 1, 1) := by decide +kernel
theorem dX2_measure_121 : decode cX2_measure 121 = .ok (.invokevirtual 51, 3) := by decide +kernel
theorem dX2_measure_124 : decode cX2_measure 124 = .ok (.getstatic 68, 3) := by decide +kernel
theorem dX2_measure_127 : decode cX2_measure 127 = .ok (.if_acmp .ne 14, 3) := by decide +kernel
theorem dX2_measure_13 : decode cX2_measure 13 = .ok (.istore 4, 2) := by decide +kernel
theorem dX2_measure_130 : decode cX2_measure 130 = .ok (.iload_n 3, 1) := by decide +kernel
theorem dX2_measure_131 : decode cX2_measure 131 = .ok (.aload_n 0, 1) := by decide +kernel
theorem dX2_measure_132 : decode cX2_measure 132 = .ok (.getfield 19, 3) := by decide +kernel
theorem dX2_measure_135 : decode cX2_measure 135 = .ok (.iload_n 1, 1) := by decide +kernel
theorem dX2_measure_136 : decode cX2_measure 136 = .ok (.iaload, 1) := by decide +kernel
theorem dX2_measure_137 : decode cX2_measure 137 = .ok (.invokestatic 72, 3) := by decide +kernel
theorem dX2_measure_140 : decode cX2_measure 140 = .ok (.istore_n 3, 1) := by decide +kernel
theorem dX2_measure_141 : decode cX2_measure 141 = .ok (.aload_n 0, 1) := by decide +kernel
theorem dX2_measure_142 : decode cX2_measure 142 = .ok (.getfield 28, 3) := by decide +kernel
theorem dX2_measure_145 : decode cX2_measure 145 = .ok (.iload_n 1, 1) := by decide +kernel
theorem dX2_measure_146 : decode cX2_measure 146 = .ok (.iload_n 3, 1) := by decide +kernel
theorem dX2_measure_147 : decode cX2_measure 147 = .ok (.iastore, 1) := by decide +kernel
theorem dX2_measure_148 : decode cX2_measure 148 = .ok (.aload_n 0, 1) := by decide +kernel
theorem dX2_measure_149 : decode cX2_measure 149 = .ok (.getfield 31, 3) := by decide +kernel
theorem dX2_measure_15 : decode cX2_measure 15 = .ok (.iconst 0, 1) := by decide +kernel
theorem dX2_measure_152 : decode cX2_measure 152 = .ok (.iload_n 1, 1) := by decide +kernel
theorem dX2_measure_153 : decode cX2_measure 153 = .ok (.iload 4, 2) := by decide +kernel
theorem dX2_measure_155 : decode cX2_measure 155 = .ok (.iastore, 1) := by decide +kernel
theorem dX2_measure_156 : decode cX2_measure 156 = .ok (.aload_n 0, 1) := by decide +kernel
theorem dX2_measure_157 : decode cX2_measure 157 = .ok (.getfield 34, 3) := by decide +kernel
theorem dX2_measure_16 : decode cX2_measure 16 = .ok (.istore 5, 2) := by decide +kernel
theorem dX2_measure_160 : decode cX2_measure 160 = .ok (.iload_n 1, 1) := by decide +kernel
theorem dX2_measure_161 : decode cX2_measure 161 = .ok (.iload 5, 2) := by decide +kernel
theorem dX2_measure_163 : decode cX2_measure 163 = .ok (.iconst 1, 1) := by decide +kernel
theorem dX2_measure_164 : decode cX2_measure 164 = .ok (.iadd, 1) := by decide +kernel
theorem dX2_measure_165 : decode cX2_measure 165 = .ok (.iastore, 1) := by decide +kernel
theorem dX2_measure_166 : decode cX2_measure 166 = .ok (.return_, 1) := by decide +kernel
theorem dX2_measure_18 : decode cX2_measure 18 = .ok (.iload_n 2, 1) := by decide +kernel
theorem dX2_measure_19 : decode cX2_measure 19 = .ok (.iconst 1, 1) := by decide +kernel
theorem dX2_measure_2 : decode cX2_measure 2 = .ok (.invokevirtual 51, 3) := by decide +kernel
theorem dX2_measure_20 : decode cX2_measure 20 = .ok (.if_icmp .lt 44, 3) := by decide +kernel
theorem dX2_measure_23 : decode cX2_measure 23 = .ok (.aload_n 0, 1) := by decide +kernel
theorem dX2_measure_24 : decode cX2_measure 24 = .ok (.getfield 28, 3) := by decide +kernel
theorem dX2_measure_27 : decode cX2_measure 27 = .ok (.aload_n 0, 1) := by decide +kernel
theorem dX2_measure_28 : decode cX2_measure 28 = .ok (.getfield 22, 3) := by decide +kernel
theorem dX2_measure_31 : decode cX2_measure 31 = .ok (.iload_n 1, 1) := by decide +kernel
theorem dX2_measure_32 : decode cX2_measure 32 = .ok (.iaload, 1) := by decide +kernel
theorem dX2_measure_33 : decode cX2_measure 33 = .ok (.iaload, 1) := by decide +kernel
theorem dX2_measure_34 : decode cX2_measure 34 = .ok (.istore_n 3, 1) := by decide +kernel
theorem dX2_measure_35 : decode cX2_measure 35 = .ok (.iload 4, 2) := by decide +kernel
theorem dX2_measure_37 : decode cX2_measure 37 = .ok (.aload_n 0, 1) := by decide +kernel
theorem dX2_measure_38 : decode cX2_measure 38 = .ok (.getfield 31, 3) := by decide +kernel
theorem dX2_measure_41 : decode cX2_measure 41 = .ok (.aload_n 0, 1) := by decide +kernel
theorem dX2_measure_42 : decode cX2_measure 42 = .ok (.getfield 22, 3) := by decide +kernel
theorem dX2_measure_45 : decode cX2_measure 45 = .ok (.iload_n 1, 1) := by decide +kernel
theorem dX2_measure_46 : decode cX2_measure 46 = .ok (.iaload, 1) := by decide +kernel
theorem dX2_measure_47 : decode cX2_measure 47 = .ok (.iaload, 1) := by decide +kernel
theorem dX2_measure_48 : decode cX2_measure 48 = .ok (.iadd, 1) := by decide +kernel
theorem dX2_measure_49 : decode cX2_measure 49 = .ok (.istore 4, 2) := by decide +kernel
theorem dX2_measure_5 : decode cX2_measure 5 = .ok (.getfield 55, 3) := by decide +kernel
theorem dX2_measure_51 : decode cX2_measure 51 = .ok (.aload_n 0, 1) := by decide +kernel
theorem dX2_measure_52 : decode cX2_measure 52 = .ok (.getfield 34, 3) := by decide +kernel
theorem dX2_measure_55 : decode cX2_measure 55 = .ok (.aload_n 0, 1) := by decide +kernel
theorem dX2_measure_56 : decode cX2_measure 56 = .ok (.getfield 22, 3) := by decide +kernel
theorem dX2_measure_59 : decode cX2_measure 59 = .ok (.iload_n 1, 1) := by decide +kernel
theorem dX2_measure_60 : decode cX2_measure 60 = .ok (.iaload, 1) := by decide +kernel
theorem dX2_measure_61 : decode cX2_measure 61 = .ok (.iaload, 1) := by decide +kernel
theorem dX2_measure_62 : decode cX2_measure 62 = .ok (.istore 5, 2) := by decide +kernel
theorem dX2_measure_64 : decode cX2_measure 64 = .ok (.iload_n 2, 1) := by decide +kernel
theorem dX2_measure_65 : decode cX2_measure 65 = .ok (.iconst 2, 1) := by decide +kernel
theorem dX2_measure_66 : decode cX2_measure 66 = .ok (.if_icmp .ne 53, 3) := by decide +kernel
theorem dX2_measure_69 : decode cX2_measure 69 = .ok (.iload_n 3, 1) := by decide +kernel
theorem dX2_measure_70 : decode cX2_measure 70 = .ok (.aload_n 0, 1) := by decide +kernel
theorem dX2_measure_71 : decode cX2_measure 71 = .ok (.getfield 28, 3) := by decide +kernel
theorem dX2_measure_74 : decode cX2_measure 74 = .ok (.aload_n 0, 1) := by decide +kernel
theorem dX2_measure_75 : decode cX2_measure 75 = .ok (.getfield 25, 3) := by decide +kernel
theorem dX2_measure_78 : decode cX2_measure 78 = .ok (.iload_n 1, 1) := by decide +kernel
theorem dX2_measure_79 : decode cX2_measure 79 = .ok (.iaload, 1) := by decide +kernel
theorem dX2_measure_8 : decode cX2_measure 8 = .ok (.istore_n 2, 1) := by decide +kernel
theorem dX2_measure_80 : decode cX2_measure 80 = .ok (.iaload, 1) := by decide +kernel
theorem dX2_measure_81 : decode cX2_measure 81 = .ok (.invokestatic 62, 3) := by decide +kernel
theorem dX2_measure_84 : decode cX2_measure 84 = .ok (.istore_n 3, 1) := by decide +kernel
theorem dX2_measure_85 : decode cX2_measure 85 = .ok (.iload 4, 2) := by decide +kernel
theorem dX2_measure_87 : decode cX2_measure 87 = .ok (.aload_n 0, 1) := by decide +kernel
theorem dX2_measure_88 : decode cX2_measure 88 = .ok (.getfield 31, 3) := by decide +kernel
theorem dX2_measure_9 : decode cX2_measure 9 = .ok (.bipush 6, 2) := by decide +kernel
theorem dX2_measure_91 : decode cX2_measure 91 = .ok (.aload_n 0, 1) := by decide +kernel
theorem dX2_measure_92 : decode cX2_measure 92 = .ok (.getfield 25, 3) := by decide +kernel
theorem dX2_measure_95 : decode cX2_measure 95 = .ok (.iload_n 1, 1) := by decide +kernel
theorem dX2_measure_96 : decode cX2_measure 96 = .ok (.iaload, 1) := by decide +kernel
theorem dX2_measure_97 : decode cX2_measure 97 = .ok (.iaload, 1) := by decide +kernel
theorem dX2_measure_98 : decode cX2_measure 98 = .ok (.iadd, 1) := by decide +kernel
theorem dX2_measure_99 : decode cX2_measure 99 = .ok (.istore 4, 2) := by decide +kernel
set_option maxRecDepth 20000 in
theorem ggX2_measure_X2_kindOf : GoodIn wsX2_measure wsX2_kindOf := goodIn_r _ [20, 21, 22, 23, 24, 25, 26, 27, 28, 29] rfl (by decide +kernel)
set_option maxRecDepth 20000 in
theorem gX2_measure_X2_kindOf : GoodIn wsX2_measure (wsV RX2 51 RX2 yX2_kindOf wsX2_kindOf) := goodIn_app (goodIn_r _ [16, 17, 18, 19] rfl (by decide +kernel)) ggX2_measure_X2_kindOf
theorem hv_X2_kindOf : yX2_kindOf.cls = RX2 ∧ yX2_kindOf.cls ≠ "java/lang/invoke/MethodHandle" ∧ yX2_kindOf.cls ≠ "java/lang/invoke/VarHandle" ∧ (parseMethodDescriptor yX2_kindOf.desc).map (fun d => d.parameters.length) = some 1 := by decide +kernel
set_option maxRecDepth 20000 in
theorem in_X2_measure_X2 : ∀ w ∈ wsX20, w ∈ wsX2_measure := sub_r [22, 23, 24, 25, 26, 27, 28, 29] rfl
set_option maxHeartbeats 4000000 in
set_option maxRecDepth 100000 in
theorem c_X2_measure (l : Launch) (D : va_G) (T : Nat → ClassId) (ad sa av : Nat → Nat) (ta : Nat) (sz : Nat) (h0 : Nat) (n0 : Int32) (c1 : Nat) (c2 : Nat) (c3 : Nat) (c4 : Nat) (c5 : Nat) (c6 : Nat) (c7 : Nat) (f1 : Nat → Int32) (f2 : Nat → Int32) (f3 : Nat → Int32) (f4 : Nat → Int32) (f5 : Nat → Int32) (f6 : Nat → Int32) (f7 : Nat → Int32) (x1 : Int32) (hx1 : 0 ≤ x1.toInt ∧ x1.toInt < 24) (hok : okC f1 f3 f4 f5) : Met l yX2_measure wsX2_measure ({ frames := 1, cells := 0, slots := 0, locals := 40 }) (pWk [.ref h0, .int x1] D T [(h0, .inr (1, [.int n0, .ref c1, .ref c2, .ref c3, .ref c4, .ref c5, .ref c6, .ref c7])), (c1, .inl (T 0, 24, .inl f1)), (c2, .inl (T 0, 24, .inl f2)), (c3, .inl (T 0, 24, .inl f3)), (c4, .inl (T 0, 24, .inl f4)), (c5, .inl (T 0, 24, .inl f5)), (c6, .inl (T 0, 24, .inl f6)), (c7, .inl (T 0, 24, .inl f7))] sz ad sa av ta) (va_Qv (fun (u : (Nat → Int32) × (Nat → Int32) × (Nat → Int32)) => (∀ j : Nat, j < 24 → (u.1 j).toInt ≤ 6) ∧ mesQ f1 f2 f3 f4 f5 f6 f7 x1 u.1 u.2.1 u.2.2) (bW D (va_A [(h0, .inr (1, [.int n0, .ref c1, .ref c2, .ref c3, .ref c4, .ref c5, .ref c6, .ref c7])), (c1, .inl (T 0, 24, .inl f1)), (c2, .inl (T 0, 24, .inl f2)), (c3, .inl (T 0, 24, .inl f3)), (c4, .inl (T 0, 24, .inl f4)), (c5, .inl (T 0, 24, .inl f5)), (c6, .inl (T 0, 24, .inl f6)), (c7, .inl (T 0, 24, .inl f7))] sz) (fun (u : (Nat → Int32) × (Nat → Int32) × (Nat → Int32)) => [(h0, .inr (1, [.int n0, .ref c1, .ref c2, .ref c3, .ref c4, .ref c5, .ref c6, .ref c7])), (c1, .inl (T 0, 24, .inl f1)), (c2, .inl (T 0, 24, .inl f2)), (c3, .inl (T 0, 24, .inl f3)), (c4, .inl (T 0, 24, .inl f4)), (c5, .inl (T 0, 24, .inl u.1)), (c6, .inl (T 0, 24, .inl u.2.1)), (c7, .inl (T 0, 24, .inl u.2.2))])) (va_A [(h0, .inr (1, [.int n0, .ref c1, .ref c2, .ref c3, .ref c4, .ref c5, .ref c6, .ref c7])), (c1, .inl (T 0, 24, .inl f1)), (c2, .inl (T 0, 24, .inl f2)), (c3, .inl (T 0, 24, .inl f3)), (c4, .inl (T 0, 24, .inl f4)), (c5, .inl (T 0, 24, .inl f5)), (c6, .inl (T 0, 24, .inl f6)), (c7, .inl (T 0, 24, .inl f7))] sz)) 0 0 (va_A [(h0, .inr (1, [.int n0, .ref c1, .ref c2, .ref c3, .ref c4, .ref c5, .ref c6, .ref c7])), (c1, .inl (T 0, 24, .inl f1)), (c2, .inl (T 0, 24, .inl f2)), (c3, .inl (T 0, 24, .inl f3)), (c4, .inl (T 0, 24, .inl f4)), (c5, .inl (T 0, 24, .inl f5)), (c6, .inl (T 0, 24, .inl f6)), (c7, .inl (T 0, 24, .inl f7))] sz) := by
  refine Met.ofW (cc := cX2_measure) (maxL := 6) (ret := none) (by decide +kernel) rfl ?_
  intro p e s m args below meth c s₁ B hml hv
  obtain ⟨rfl, hsz, hP, hE, hD0, hV⟩ := hv
  have hx := B.exec
  have hb := B.bytes
  have hr := B.returns
  have hts := atoms_spec (ws := wsX2_measure) B.pre
  have hown : s.vm.findClass RX2 = some m.cls := findClass_of_methodNamed B.named
  have hlocks := B.notSynchronized
  subst hsz
  have hD := hD0.self (sz := s.heap.size)
  generalize hAe : va_A [(h0, .inr (1, [.int n0, .ref c1, .ref c2, .ref c3, .ref c4, .ref c5, .ref c6, .ref c7])), (c1, .inl (T 0, 24, .inl f1)), (c2, .inl (T 0, 24, .inl f2)), (c3, .inl (T 0, 24, .inl f3)), (c4, .inl (T 0, 24, .inl f4)), (c5, .inl (T 0, 24, .inl f5)), (c6, .inl (T 0, 24, .inl f6)), (c7, .inl (T 0, 24, .inl f7))] s.heap.size = A at hD hV ⊢
  have hA : ∀ q : Nat, s.heap.size ≤ q → A q := fun q h => by rw [← hAe]; exact Or.inr h
  have hS : va_S A s.heap s.heap [] := va_S.rf
  have hP : va_P D vwCl [(h0, .inr (1, [.int n0, .ref c1, .ref c2, .ref c3, .ref c4, .ref c5, .ref c6, .ref c7])), (c1, .inl (T 0, 24, .inl f1)), (c2, .inl (T 0, 24, .inl f2)), (c3, .inl (T 0, 24, .inl f3)), (c4, .inl (T 0, 24, .inl f4)), (c5, .inl (T 0, 24, .inl f5)), (c6, .inl (T 0, 24, .inl f6)), (c7, .inl (T 0, 24, .inl f7))] s.heap := hP
  have hl := lv_entry ([.ref h0, .int x1]) (n := 6) (Nat.le_of_ble_eq_true rfl)
  rw [lg_entry_eq]
  generalize (lg_sl ([.ref h0, .int x1]) ++ List.replicate (6 - (lg_sl ([.ref h0, .int x1])).length) Slot.unset).toArray = ls at hl ⊢
  have hl : lv_has ls 6 [(0, .ref h0), (1, .int x1)] := hl
  clear hD0
  refine lv_aload_n hx hb dX2_measure_0 rfl (lv_at hl 0 rfl) ?_
  refine lv_iload_n hx hb dX2_measure_1 rfl (lv_at hl 1 rfl) ?_
  refine va_cse (W.runV (As := [.int x1]) (rest := []) ⟨hx, hb, hml, hown, hts⟩ (c_X2_kindOf l D T ad sa av ta h0 [.int n0, .ref c1, .ref c2, .ref c3, .ref c4, .ref c5, .ref c6, .ref c7] c1 f1 x1 rfl (by omega) ((hok _ (in24 (x := x1) (by omega)).1).1)) (cwV 1 hts gX2_measure_X2_kindOf rfl rfl rfl hv_X2_kindOf ⟨Nat.le_of_ble_eq_true rfl, Nat.le_of_ble_eq_true rfl⟩) (pRk_V (q := (RX2, TX2, 8)) (ci := 1) (q0 := 0) hP hE hV hS rfl rfl [0, 1] rfl) rfl rfl hl.1 rfl (lv_room (Nat.le_of_ble_eq_true rfl)) dX2_measure_2 ⟨Nat.le_of_ble_eq_true rfl, Nat.le_of_ble_eq_true rfl⟩) (fun r_1 hr_1 => ?_)
  subst hr_1
  refine W.eq (g2 := F0 m 5 ls [.ref (ad ((f1 (x1.toNatClampNeg)).toNatClampNeg))]) rfl ?_
  refine va_getE (i := ((f1 (x1.toNatClampNeg)).toNatClampNeg)) hx hb hV.1.1 (in13c ((hok _ (in24 (x := x1) (by omega)).1).1)) hS hown (q := kdQ "names" [0, 0, 1, 1, 1, 2, 2, 2, 1, 2, 1, 1, 2]) (List.mem_of_getElem? (i := 0) rfl) (hts (.fieldLink RX2 55 "ClauseBook$Kind" "names" "I") (List.mem_of_getElem? (i := 1) rfl)) (fun _ h9 => h9) dX2_measure_5 ?_
  refine W.eq (g2 := F0 m 8 ls [.int (nmT ((f1 (x1.toNatClampNeg)).toNatClampNeg))]) rfl ?_
  refine lv_topi (fun z_2 ez_2 => ?_)
  have hnm : 0 ≤ z_2.toInt ∧ z_2.toInt ≤ 2 := by rw [ez_2]; exact nmT_in _
  refine lv_istore_n (lv' := [(2, .int z_2), (0, .ref h0), (1, .int x1)]) hx hb dX2_measure_8 rfl hl (by decide +kernel) rfl (fun ls hl => ?_)
  refine lv_bipush (v := 6) hx hb dX2_measure_9 (by decide +kernel) ?_
  refine lv_istore_n (lv' := [(3, .int 6), (2, .int z_2), (0, .ref h0), (1, .int x1)]) hx hb dX2_measure_11 rfl hl (by decide +kernel) rfl (fun ls hl => ?_)
  refine lv_iconst (v := 1) hx hb dX2_measure_12 (by decide +kernel) ?_
  refine lv_istore (lv' := [(4, .int 1), (3, .int 6), (2, .int z_2), (0, .ref h0), (1, .int x1)]) hx hb dX2_measure_13 hl (by decide +kernel) rfl (fun ls hl => ?_)
  refine lv_iconst (v := 0) hx hb dX2_measure_15 (by decide +kernel) ?_
  refine lv_istore (lv' := [(5, .int 0), (4, .int 1), (3, .int 6), (2, .int z_2), (0, .ref h0), (1, .int x1)]) hx hb dX2_measure_16 hl (by decide +kernel) rfl (fun ls hl => ?_)
  refine lv_iload_n hx hb dX2_measure_18 rfl (lv_at hl 3 rfl) ?_
  refine lv_iconst (v := 1) hx hb dX2_measure_19 (by decide +kernel) ?_
  refine lv_icmp_lt (tgt := 64) hx hb dX2_measure_20 (by decide +kernel) (fun c_3 => ?_) (fun c_3 => ?_)
  · rw [fa_lt] at c_3
    try rw [ti_1] at c_3
    refine lv_iload_n hx hb dX2_measure_64 rfl (lv_at hl 3 rfl) ?_
    refine lv_iconst (v := 2) hx hb dX2_measure_65 (by decide +kernel) ?_
    refine lv_icmp_ne (tgt := 119) hx hb dX2_measure_66 (by decide +kernel) (fun c_4 => ?_) (fun c_4 => ?_)
    · rw [fa_eq] at c_4
      try rw [ti_2] at c_4
      refine lv_aload_n hx hb dX2_measure_119 rfl (lv_at hl 4 rfl) ?_
      refine lv_iload_n hx hb dX2_measure_120 rfl (lv_at hl 5 rfl) ?_
      refine va_cse (W.runV (As := [.int x1]) (rest := []) ⟨hx, hb, hml, hown, hts⟩ (c_X2_kindOf l D T ad sa av ta h0 [.int n0, .ref c1, .ref c2, .ref c3, .ref c4, .ref c5, .ref c6, .ref c7] c1 f1 x1 rfl (by omega) ((hok _ (in24 (x := x1) (by omega)).1).1)) (cwV 1 hts gX2_measure_X2_kindOf rfl rfl rfl hv_X2_kindOf ⟨Nat.le_of_ble_eq_true rfl, Nat.le_of_ble_eq_true rfl⟩) (pRk_V (q := (RX2, TX2, 8)) (ci := 1) (q0 := 0) hP hE hV hS rfl rfl [0, 1] rfl) rfl rfl hl.1 rfl (lv_room (Nat.le_of_ble_eq_true rfl)) dX2_measure_121 ⟨Nat.le_of_ble_eq_true rfl, Nat.le_of_ble_eq_true rfl⟩) (fun r_5 hr_5 => ?_)
      subst hr_5
      refine W.eq (g2 := F0 m 124 ls [.ref (ad ((f1 (x1.toNatClampNeg)).toNatClampNeg))]) rfl ?_
      refine va_gets (v := .ref (ad 8)) hx hb (hV.1.1.1 8 (by decide +kernel)).1 hS hown (hts (.fieldLink RX2 68 "ClauseBook$Kind" "UNTIL" "LClauseBook$Kind;") (List.mem_of_getElem? (i := 11) rfl)) (fun _ h9 => h9) dX2_measure_124 ?_
      refine lv_acmp_ne (rx := some (ad ((f1 (x1.toNatClampNeg)).toNatClampNeg))) (ry := some (ad 8)) (tgt := 141) hx hb dX2_measure_127 (by decide +kernel) (fun c_6 => ?_) (fun c_6 => ?_)
      · refine lv_aload_n hx hb dX2_measure_141 rfl (lv_at hl 4 rfl) ?_
        refine va_get (D := D) (ci := 1) (v := .ref c5) (C := RX2) (T := TX2) (N := 8) hx hb hts in_X2_measure_X2 hown hE.1 hP 0 rfl rfl 5 (by decide +kernel) (hts (.fieldLink RX2 28 "ClauseBook$Clauses" "end" "[I") (List.mem_of_getElem? (i := 2) rfl)) (fun _ h9 => h9) rfl dX2_measure_142 ?_
        refine lv_iload_n hx hb dX2_measure_145 rfl (lv_at hl 5 rfl) ?_
        refine lv_iload_n hx hb dX2_measure_146 rfl (lv_at hl 2 rfl) ?_
        refine va_iast hx hb hE.1 hP hD hS 5 0 rfl rfl (by rw [vp_in_iff]; first | omega | (subst_vars; omega)) dX2_measure_147 (fun H locs hP hD hS => ?_)
        obtain ⟨hP, hD⟩ := wPD [(h0, .inr (1, [.int n0, .ref c1, .ref c2, .ref c3, .ref c4, .ref c5, .ref c6, .ref c7])), (c1, .inl (T 0, 24, .inl f1)), (c2, .inl (T 0, 24, .inl f2)), (c3, .inl (T 0, 24, .inl f3)), (c4, .inl (T 0, 24, .inl f4)), (c5, .inl (T 0, 24, .inl (upd f5 (x1.toNatClampNeg) 6))), (c6, .inl (T 0, 24, .inl f6)), (c7, .inl (T 0, 24, .inl f7))] hP hD rfl
        refine lv_aload_n hx hb dX2_measure_148 rfl (lv_at hl 4 rfl) ?_
        refine va_get (D := D) (ci := 1) (v := .ref c6) (C := RX2) (T := TX2) (N := 8) hx hb hts in_X2_measure_X2 hown hE.1 hP 0 rfl rfl 6 (by decide +kernel) (hts (.fieldLink RX2 31 "ClauseBook$Clauses" "made" "[I") (List.mem_of_getElem? (i := 4) rfl)) (fun _ h9 => h9) rfl dX2_measure_149 ?_
        refine lv_iload_n hx hb dX2_measure_152 rfl (lv_at hl 5 rfl) ?_
        refine lv_iload hx hb dX2_measure_153 (lv_at hl 1 rfl) ?_
        refine va_iast hx hb hE.1 hP hD hS 6 0 rfl rfl (by rw [vp_in_iff]; first | omega | (subst_vars; omega)) dX2_measure_155 (fun H locs hP hD hS => ?_)
        obtain ⟨hP, hD⟩ := wPD [(h0, .inr (1, [.int n0, .ref c1, .ref c2, .ref c3, .ref c4, .ref c5, .ref c6, .ref c7])), (c1, .inl (T 0, 24, .inl f1)), (c2, .inl (T 0, 24, .inl f2)), (c3, .inl (T 0, 24, .inl f3)), (c4, .inl (T 0, 24, .inl f4)), (c5, .inl (T 0, 24, .inl (upd f5 (x1.toNatClampNeg) 6))), (c6, .inl (T 0, 24, .inl (upd f6 (x1.toNatClampNeg) 1))), (c7, .inl (T 0, 24, .inl f7))] hP hD rfl
        refine lv_aload_n hx hb dX2_measure_156 rfl (lv_at hl 4 rfl) ?_
        refine va_get (D := D) (ci := 1) (v := .ref c7) (C := RX2) (T := TX2) (N := 8) hx hb hts in_X2_measure_X2 hown hE.1 hP 0 rfl rfl 7 (by decide +kernel) (hts (.fieldLink RX2 34 "ClauseBook$Clauses" "deep" "[I") (List.mem_of_getElem? (i := 5) rfl)) (fun _ h9 => h9) rfl dX2_measure_157 ?_
        refine lv_iload_n hx hb dX2_measure_160 rfl (lv_at hl 5 rfl) ?_
        refine lv_iload hx hb dX2_measure_161 (lv_at hl 0 rfl) ?_
        refine lv_iconst (v := 1) hx hb dX2_measure_163 (by decide +kernel) ?_
        refine lv_iadd hx hb dX2_measure_164 ?_
        refine lv_topi (fun z_7 ez_7 => ?_)
        obtain rfl : z_7 = 1 := ez_7.trans (by decide +kernel)
        refine va_iast hx hb hE.1 hP hD hS 7 0 rfl rfl (by rw [vp_in_iff]; first | omega | (subst_vars; omega)) dX2_measure_165 (fun H locs hP hD hS => ?_)
        obtain ⟨hP, hD⟩ := wPD [(h0, .inr (1, [.int n0, .ref c1, .ref c2, .ref c3, .ref c4, .ref c5, .ref c6, .ref c7])), (c1, .inl (T 0, 24, .inl f1)), (c2, .inl (T 0, 24, .inl f2)), (c3, .inl (T 0, 24, .inl f3)), (c4, .inl (T 0, 24, .inl f4)), (c5, .inl (T 0, 24, .inl (upd f5 (x1.toNatClampNeg) 6))), (c6, .inl (T 0, 24, .inl (upd f6 (x1.toNatClampNeg) 1))), (c7, .inl (T 0, 24, .inl (upd f7 (x1.toNatClampNeg) 1)))] hP hD rfl
        exact W.vret hx hb hr (fun t ht hW => ⟨⟨((upd f5 (x1.toNatClampNeg) 6), (upd f6 (x1.toNatClampNeg) 1), (upd f7 (x1.toNatClampNeg) 1)), rfl, ⟨(fun j hj => by
        show ((upd f5 (x1.toNatClampNeg) 6) j).toInt ≤ 6
        by_cases hjx : j = x1.toNatClampNeg
        · simp only [upd, if_pos hjx]; first | omega | decide
        · simp only [upd, if_neg hjx]; exact (hok j hj).2.2.2), ⟨_, _, _, rfl, rfl, rfl, (mesE_no (fun e9 => c_6 (by rw [e9])) (endB_0 (by rw [← ez_2]; omega))), (mesM_0 (by rw [← ez_2]; omega)), (mesD_0 (by rw [← ez_2]; omega))⟩⟩, by rw [ht]; exact hP.sub [0, 1, 2, 3, 4, 5, 6, 7] rfl, hD.sub [0, 1, 2, 3, 4, 5, 6, 7] (by decide +kernel) rfl⟩, hS.F ht⟩) hS.2.2 dX2_measure_166
      · refine lv_iload_n hx hb dX2_measure_130 rfl (lv_at hl 2 rfl) ?_
        refine lv_aload_n hx hb dX2_measure_131 rfl (lv_at hl 4 rfl) ?_
        refine va_get (D := D) (ci := 1) (v := .ref c2) (C := RX2) (T := TX2) (N := 8) hx hb hts in_X2_measure_X2 hown hE.1 hP 0 rfl rfl 2 (by decide +kernel) (hts (.fieldLink RX2 19 "ClauseBook$Clauses" "n" "[I") (List.mem_of_getElem? (i := 12) rfl)) (fun _ h9 => h9) rfl dX2_measure_132 ?_
        refine lv_iload_n hx hb dX2_measure_135 rfl (lv_at hl 5 rfl) ?_
        refine va_iald hx hb hE.1 hP 2 0 rfl rfl (by rw [vp_in_iff]; first | omega | (subst_vars; omega)) dX2_measure_136 ?_
        refine lv_topi (fun z_8 ez_8 => ?_)
        refine va_mmin hx hb (hml.trans hl.1.symm) hown (hts (.methodLink RX2 72 Lib.Math.min.name) (List.mem_of_getElem? (i := 13) rfl)) (hts (.static Lib.Math.min.name) (List.mem_of_getElem? (i := 14) rfl)) (hts (.initialized "java/lang/Math") (List.mem_of_getElem? (i := 9) rfl)) (hts (.code Lib.Math.min.name Lib.Math.min.code 2 (some .int)) (List.mem_of_getElem? (i := 15) rfl)) (Nat.le_of_ble_eq_true rfl) (Nat.le_of_ble_eq_true rfl) (Nat.le_of_ble_eq_true rfl) (Nat.le_of_ble_eq_true rfl) dX2_measure_137 ?_
        refine lv_topi (fun z_9 ez_9 => ?_)
        have h6z_9 : z_9.toInt ≤ 6 := by
          rw [ez_9]
          have h66 := ti_6
          split
          · rename_i h
            rw [fa_lt] at h
            omega
          · omega
        refine lv_istore_n (lv' := [(3, .int z_9), (5, .int 0), (4, .int 1), (2, .int z_2), (0, .ref h0), (1, .int x1)]) hx hb dX2_measure_140 rfl hl (by decide +kernel) rfl (fun ls hl => ?_)
        refine lv_aload_n hx hb dX2_measure_141 rfl (lv_at hl 4 rfl) ?_
        refine va_get (D := D) (ci := 1) (v := .ref c5) (C := RX2) (T := TX2) (N := 8) hx hb hts in_X2_measure_X2 hown hE.1 hP 0 rfl rfl 5 (by decide +kernel) (hts (.fieldLink RX2 28 "ClauseBook$Clauses" "end" "[I") (List.mem_of_getElem? (i := 2) rfl)) (fun _ h9 => h9) rfl dX2_measure_142 ?_
        refine lv_iload_n hx hb dX2_measure_145 rfl (lv_at hl 5 rfl) ?_
        refine lv_iload_n hx hb dX2_measure_146 rfl (lv_at hl 0 rfl) ?_
        refine va_iast hx hb hE.1 hP hD hS 5 0 rfl rfl (by rw [vp_in_iff]; first | omega | (subst_vars; omega)) dX2_measure_147 (fun H locs hP hD hS => ?_)
        obtain ⟨hP, hD⟩ := wPD [(h0, .inr (1, [.int n0, .ref c1, .ref c2, .ref c3, .ref c4, .ref c5, .ref c6, .ref c7])), (c1, .inl (T 0, 24, .inl f1)), (c2, .inl (T 0, 24, .inl f2)), (c3, .inl (T 0, 24, .inl f3)), (c4, .inl (T 0, 24, .inl f4)), (c5, .inl (T 0, 24, .inl (upd f5 (x1.toNatClampNeg) z_9))), (c6, .inl (T 0, 24, .inl f6)), (c7, .inl (T 0, 24, .inl f7))] hP hD rfl
        refine lv_aload_n hx hb dX2_measure_148 rfl (lv_at hl 4 rfl) ?_
        refine va_get (D := D) (ci := 1) (v := .ref c6) (C := RX2) (T := TX2) (N := 8) hx hb hts in_X2_measure_X2 hown hE.1 hP 0 rfl rfl 6 (by decide +kernel) (hts (.fieldLink RX2 31 "ClauseBook$Clauses" "made" "[I") (List.mem_of_getElem? (i := 4) rfl)) (fun _ h9 => h9) rfl dX2_measure_149 ?_
        refine lv_iload_n hx hb dX2_measure_152 rfl (lv_at hl 5 rfl) ?_
        refine lv_iload hx hb dX2_measure_153 (lv_at hl 2 rfl) ?_
        refine va_iast hx hb hE.1 hP hD hS 6 0 rfl rfl (by rw [vp_in_iff]; first | omega | (subst_vars; omega)) dX2_measure_155 (fun H locs hP hD hS => ?_)
        obtain ⟨hP, hD⟩ := wPD [(h0, .inr (1, [.int n0, .ref c1, .ref c2, .ref c3, .ref c4, .ref c5, .ref c6, .ref c7])), (c1, .inl (T 0, 24, .inl f1)), (c2, .inl (T 0, 24, .inl f2)), (c3, .inl (T 0, 24, .inl f3)), (c4, .inl (T 0, 24, .inl f4)), (c5, .inl (T 0, 24, .inl (upd f5 (x1.toNatClampNeg) z_9))), (c6, .inl (T 0, 24, .inl (upd f6 (x1.toNatClampNeg) 1))), (c7, .inl (T 0, 24, .inl f7))] hP hD rfl
        refine lv_aload_n hx hb dX2_measure_156 rfl (lv_at hl 4 rfl) ?_
        refine va_get (D := D) (ci := 1) (v := .ref c7) (C := RX2) (T := TX2) (N := 8) hx hb hts in_X2_measure_X2 hown hE.1 hP 0 rfl rfl 7 (by decide +kernel) (hts (.fieldLink RX2 34 "ClauseBook$Clauses" "deep" "[I") (List.mem_of_getElem? (i := 5) rfl)) (fun _ h9 => h9) rfl dX2_measure_157 ?_
        refine lv_iload_n hx hb dX2_measure_160 rfl (lv_at hl 5 rfl) ?_
        refine lv_iload hx hb dX2_measure_161 (lv_at hl 1 rfl) ?_
        refine lv_iconst (v := 1) hx hb dX2_measure_163 (by decide +kernel) ?_
        refine lv_iadd hx hb dX2_measure_164 ?_
        refine lv_topi (fun z_10 ez_10 => ?_)
        obtain rfl : z_10 = 1 := ez_10.trans (by decide +kernel)
        refine va_iast hx hb hE.1 hP hD hS 7 0 rfl rfl (by rw [vp_in_iff]; first | omega | (subst_vars; omega)) dX2_measure_165 (fun H locs hP hD hS => ?_)
        obtain ⟨hP, hD⟩ := wPD [(h0, .inr (1, [.int n0, .ref c1, .ref c2, .ref c3, .ref c4, .ref c5, .ref c6, .ref c7])), (c1, .inl (T 0, 24, .inl f1)), (c2, .inl (T 0, 24, .inl f2)), (c3, .inl (T 0, 24, .inl f3)), (c4, .inl (T 0, 24, .inl f4)), (c5, .inl (T 0, 24, .inl (upd f5 (x1.toNatClampNeg) z_9))), (c6, .inl (T 0, 24, .inl (upd f6 (x1.toNatClampNeg) 1))), (c7, .inl (T 0, 24, .inl (upd f7 (x1.toNatClampNeg) 1)))] hP hD rfl
        exact W.vret hx hb hr (fun t ht hW => ⟨⟨((upd f5 (x1.toNatClampNeg) z_9), (upd f6 (x1.toNatClampNeg) 1), (upd f7 (x1.toNatClampNeg) 1)), rfl, ⟨(fun j hj => by
        show ((upd f5 (x1.toNatClampNeg) z_9) j).toInt ≤ 6
        by_cases hjx : j = x1.toNatClampNeg
        · simp only [upd, if_pos hjx]; first | omega | decide
        · simp only [upd, if_neg hjx]; exact (hok j hj).2.2.2), ⟨_, _, _, rfl, rfl, rfl, (mesE_yes (hV.1.1.2 _ 8 (in13c ((hok _ (in24 (x := x1) (by omega)).1).1)) (by decide +kernel) (Option.some.inj c_6)) (endB_0 (by rw [← ez_2]; omega)) ez_9 ez_8), (mesM_0 (by rw [← ez_2]; omega)), (mesD_0 (by rw [← ez_2]; omega))⟩⟩, by rw [ht]; exact hP.sub [0, 1, 2, 3, 4, 5, 6, 7] rfl, hD.sub [0, 1, 2, 3, 4, 5, 6, 7] (by decide +kernel) rfl⟩, hS.F ht⟩) hS.2.2 dX2_measure_166
    · rw [fa_eq] at c_4
      try rw [ti_2] at c_4
      have hd9 : 0 ≤ (f4 (x1.toNatClampNeg)).toInt ∧ (f4 (x1.toNatClampNeg)).toInt < x1.toInt := by
        have h := (hok _ (in24 (x := x1) (by omega)).1).2.2.1 (by rw [← ez_2]; omega)
        have h2 := (in24 (x := x1) (by omega)).2
        omega
      refine lv_iload_n hx hb dX2_measure_69 rfl (lv_at hl 2 rfl) ?_
      refine lv_aload_n hx hb dX2_measure_70 rfl (lv_at hl 4 rfl) ?_
      refine va_get (D := D) (ci := 1) (v := .ref c5) (C := RX2) (T := TX2) (N := 8) hx hb hts in_X2_measure_X2 hown hE.1 hP 0 rfl rfl 5 (by decide +kernel) (hts (.fieldLink RX2 28 "ClauseBook$Clauses" "end" "[I") (List.mem_of_getElem? (i := 2) rfl)) (fun _ h9 => h9) rfl dX2_measure_71 ?_
      refine lv_aload_n hx hb dX2_measure_74 rfl (lv_at hl 4 rfl) ?_
      refine va_get (D := D) (ci := 1) (v := .ref c4) (C := RX2) (T := TX2) (N := 8) hx hb hts in_X2_measure_X2 hown hE.1 hP 0 rfl rfl 4 (by decide +kernel) (hts (.fieldLink RX2 25 "ClauseBook$Clauses" "d" "[I") (List.mem_of_getElem? (i := 6) rfl)) (fun _ h9 => h9) rfl dX2_measure_75 ?_
      refine lv_iload_n hx hb dX2_measure_78 rfl (lv_at hl 5 rfl) ?_
      refine va_iald hx hb hE.1 hP 4 0 rfl rfl (by rw [vp_in_iff]; first | omega | (subst_vars; omega)) dX2_measure_79 ?_
      refine lv_topi (fun z_11 ez_11 => ?_)
      refine va_iald hx hb hE.1 hP 5 0 rfl rfl (by rw [vp_in_iff]; first | omega | (subst_vars; omega)) dX2_measure_80 ?_
      refine lv_topi (fun z_12 ez_12 => ?_)
      have h6z_12 : z_12.toInt ≤ 6 := by
        rw [ez_12]
        exact (hok _ (in24 (by subst_vars; omega)).1).2.2.2
      refine va_mmax hx hb (hml.trans hl.1.symm) hown (hts (.methodLink RX2 62 Lib.Math.max.name) (List.mem_of_getElem? (i := 7) rfl)) (hts (.static Lib.Math.max.name) (List.mem_of_getElem? (i := 8) rfl)) (hts (.initialized "java/lang/Math") (List.mem_of_getElem? (i := 9) rfl)) (hts (.code Lib.Math.max.name Lib.Math.max.code 2 (some .int)) (List.mem_of_getElem? (i := 10) rfl)) (Nat.le_of_ble_eq_true rfl) (Nat.le_of_ble_eq_true rfl) (Nat.le_of_ble_eq_true rfl) (Nat.le_of_ble_eq_true rfl) dX2_measure_81 ?_
      refine lv_topi (fun z_13 ez_13 => ?_)
      have h6z_13 : z_13.toInt ≤ 6 := by
        rw [ez_13]
        have h66 := ti_6
        split
        · rename_i h
          rw [fa_lt] at h
          omega
        · omega
      refine lv_istore_n (lv' := [(3, .int z_13), (5, .int 0), (4, .int 1), (2, .int z_2), (0, .ref h0), (1, .int x1)]) hx hb dX2_measure_84 rfl hl (by decide +kernel) rfl (fun ls hl => ?_)
      refine lv_iload hx hb dX2_measure_85 (lv_at hl 2 rfl) ?_
      refine lv_aload_n hx hb dX2_measure_87 rfl (lv_at hl 4 rfl) ?_
      refine va_get (D := D) (ci := 1) (v := .ref c6) (C := RX2) (T := TX2) (N := 8) hx hb hts in_X2_measure_X2 hown hE.1 hP 0 rfl rfl 6 (by decide +kernel) (hts (.fieldLink RX2 31 "ClauseBook$Clauses" "made" "[I") (List.mem_of_getElem? (i := 4) rfl)) (fun _ h9 => h9) rfl dX2_measure_88 ?_
      refine lv_aload_n hx hb dX2_measure_91 rfl (lv_at hl 4 rfl) ?_
      refine va_get (D := D) (ci := 1) (v := .ref c4) (C := RX2) (T := TX2) (N := 8) hx hb hts in_X2_measure_X2 hown hE.1 hP 0 rfl rfl 4 (by decide +kernel) (hts (.fieldLink RX2 25 "ClauseBook$Clauses" "d" "[I") (List.mem_of_getElem? (i := 6) rfl)) (fun _ h9 => h9) rfl dX2_measure_92 ?_
      refine lv_iload_n hx hb dX2_measure_95 rfl (lv_at hl 5 rfl) ?_
      refine va_iald hx hb hE.1 hP 4 0 rfl rfl (by rw [vp_in_iff]; first | omega | (subst_vars; omega)) dX2_measure_96 ?_
      refine lv_topi (fun z_14 ez_14 => ?_)
      refine va_iald hx hb hE.1 hP 6 0 rfl rfl (by rw [vp_in_iff]; first | omega | (subst_vars; omega)) dX2_measure_97 ?_
      refine lv_topi (fun z_15 ez_15 => ?_)
      refine lv_iadd hx hb dX2_measure_98 ?_
      refine lv_topi (fun z_16 ez_16 => ?_)
      refine lv_istore (lv' := [(4, .int z_16), (3, .int z_13), (5, .int 0), (2, .int z_2), (0, .ref h0), (1, .int x1)]) hx hb dX2_measure_99 hl (by decide +kernel) rfl (fun ls hl => ?_)
      refine lv_iload hx hb dX2_measure_101 (lv_at hl 2 rfl) ?_
      refine lv_aload_n hx hb dX2_measure_103 rfl (lv_at hl 4 rfl) ?_
      refine va_get (D := D) (ci := 1) (v := .ref c7) (C := RX2) (T := TX2) (N := 8) hx hb hts in_X2_measure_X2 hown hE.1 hP 0 rfl rfl 7 (by decide +kernel) (hts (.fieldLink RX2 34 "ClauseBook$Clauses" "deep" "[I") (List.mem_of_getElem? (i := 5) rfl)) (fun _ h9 => h9) rfl dX2_measure_104 ?_
      refine lv_aload_n hx hb dX2_measure_107 rfl (lv_at hl 4 rfl) ?_
      refine va_get (D := D) (ci := 1) (v := .ref c4) (C := RX2) (T := TX2) (N := 8) hx hb hts in_X2_measure_X2 hown hE.1 hP 0 rfl rfl 4 (by decide +kernel) (hts (.fieldLink RX2 25 "ClauseBook$Clauses" "d" "[I") (List.mem_of_getElem? (i := 6) rfl)) (fun _ h9 => h9) rfl dX2_measure_108 ?_
      refine lv_iload_n hx hb dX2_measure_111 rfl (lv_at hl 5 rfl) ?_
      refine va_iald hx hb hE.1 hP 4 0 rfl rfl (by rw [vp_in_iff]; first | omega | (subst_vars; omega)) dX2_measure_112 ?_
      refine lv_topi (fun z_17 ez_17 => ?_)
      refine va_iald hx hb hE.1 hP 7 0 rfl rfl (by rw [vp_in_iff]; first | omega | (subst_vars; omega)) dX2_measure_113 ?_
      refine lv_topi (fun z_18 ez_18 => ?_)
      refine va_mmax hx hb (hml.trans hl.1.symm) hown (hts (.methodLink RX2 62 Lib.Math.max.name) (List.mem_of_getElem? (i := 7) rfl)) (hts (.static Lib.Math.max.name) (List.mem_of_getElem? (i := 8) rfl)) (hts (.initialized "java/lang/Math") (List.mem_of_getElem? (i := 9) rfl)) (hts (.code Lib.Math.max.name Lib.Math.max.code 2 (some .int)) (List.mem_of_getElem? (i := 10) rfl)) (Nat.le_of_ble_eq_true rfl) (Nat.le_of_ble_eq_true rfl) (Nat.le_of_ble_eq_true rfl) (Nat.le_of_ble_eq_true rfl) dX2_measure_114 ?_
      refine lv_topi (fun z_19 ez_19 => ?_)
      refine lv_istore (lv' := [(5, .int z_19), (4, .int z_16), (3, .int z_13), (2, .int z_2), (0, .ref h0), (1, .int x1)]) hx hb dX2_measure_117 hl (by decide +kernel) rfl (fun ls hl => ?_)
      refine lv_aload_n hx hb dX2_measure_119 rfl (lv_at hl 4 rfl) ?_
      refine lv_iload_n hx hb dX2_measure_120 rfl (lv_at hl 5 rfl) ?_
      refine va_cse (W.runV (As := [.int x1]) (rest := []) ⟨hx, hb, hml, hown, hts⟩ (c_X2_kindOf l D T ad sa av ta h0 [.int n0, .ref c1, .ref c2, .ref c3, .ref c4, .ref c5, .ref c6, .ref c7] c1 f1 x1 rfl (by omega) ((hok _ (in24 (x := x1) (by omega)).1).1)) (cwV 1 hts gX2_measure_X2_kindOf rfl rfl rfl hv_X2_kindOf ⟨Nat.le_of_ble_eq_true rfl, Nat.le_of_ble_eq_true rfl⟩) (pRk_V (q := (RX2, TX2, 8)) (ci := 1) (q0 := 0) hP hE hV hS rfl rfl [0, 1] rfl) rfl rfl hl.1 rfl (lv_room (Nat.le_of_ble_eq_true rfl)) dX2_measure_121 ⟨Nat.le_of_ble_eq_true rfl, Nat.le_of_ble_eq_true rfl⟩) (fun r_20 hr_20 => ?_)
      subst hr_20
      refine W.eq (g2 := F0 m 124 ls [.ref (ad ((f1 (x1.toNatClampNeg)).toNatClampNeg))]) rfl ?_
      refine va_gets (v := .ref (ad 8)) hx hb (hV.1.1.1 8 (by decide +kernel)).1 hS hown (hts (.fieldLink RX2 68 "ClauseBook$Kind" "UNTIL" "LClauseBook$Kind;") (List.mem_of_getElem? (i := 11) rfl)) (fun _ h9 => h9) dX2_measure_124 ?_
      refine lv_acmp_ne (rx := some (ad ((f1 (x1.toNatClampNeg)).toNatClampNeg))) (ry := some (ad 8)) (tgt := 141) hx hb dX2_measure_127 (by decide +kernel) (fun c_21 => ?_) (fun c_21 => ?_)
      · refine lv_aload_n hx hb dX2_measure_141 rfl (lv_at hl 4 rfl) ?_
        refine va_get (D := D) (ci := 1) (v := .ref c5) (C := RX2) (T := TX2) (N := 8) hx hb hts in_X2_measure_X2 hown hE.1 hP 0 rfl rfl 5 (by decide +kernel) (hts (.fieldLink RX2 28 "ClauseBook$Clauses" "end" "[I") (List.mem_of_getElem? (i := 2) rfl)) (fun _ h9 => h9) rfl dX2_measure_142 ?_
        refine lv_iload_n hx hb dX2_measure_145 rfl (lv_at hl 5 rfl) ?_
        refine lv_iload_n hx hb dX2_measure_146 rfl (lv_at hl 2 rfl) ?_
        refine va_iast hx hb hE.1 hP hD hS 5 0 rfl rfl (by rw [vp_in_iff]; first | omega | (subst_vars; omega)) dX2_measure_147 (fun H locs hP hD hS => ?_)
        obtain ⟨hP, hD⟩ := wPD [(h0, .inr (1, [.int n0, .ref c1, .ref c2, .ref c3, .ref c4, .ref c5, .ref c6, .ref c7])), (c1, .inl (T 0, 24, .inl f1)), (c2, .inl (T 0, 24, .inl f2)), (c3, .inl (T 0, 24, .inl f3)), (c4, .inl (T 0, 24, .inl f4)), (c5, .inl (T 0, 24, .inl (upd f5 (x1.toNatClampNeg) z_13))), (c6, .inl (T 0, 24, .inl f6)), (c7, .inl (T 0, 24, .inl f7))] hP hD rfl
        refine lv_aload_n hx hb dX2_measure_148 rfl (lv_at hl 4 rfl) ?_
        refine va_get (D := D) (ci := 1) (v := .ref c6) (C := RX2) (T := TX2) (N := 8) hx hb hts in_X2_measure_X2 hown hE.1 hP 0 rfl rfl 6 (by decide +kernel) (hts (.fieldLink RX2 31 "ClauseBook$Clauses" "made" "[I") (List.mem_of_getElem? (i := 4) rfl)) (fun _ h9 => h9) rfl dX2_measure_149 ?_
        refine lv_iload_n hx hb dX2_measure_152 rfl (lv_at hl 5 rfl) ?_
        refine lv_iload hx hb dX2_measure_153 (lv_at hl 1 rfl) ?_
        refine va_iast hx hb hE.1 hP hD hS 6 0 rfl rfl (by rw [vp_in_iff]; first | omega | (subst_vars; omega)) dX2_measure_155 (fun H locs hP hD hS => ?_)
        obtain ⟨hP, hD⟩ := wPD [(h0, .inr (1, [.int n0, .ref c1, .ref c2, .ref c3, .ref c4, .ref c5, .ref c6, .ref c7])), (c1, .inl (T 0, 24, .inl f1)), (c2, .inl (T 0, 24, .inl f2)), (c3, .inl (T 0, 24, .inl f3)), (c4, .inl (T 0, 24, .inl f4)), (c5, .inl (T 0, 24, .inl (upd f5 (x1.toNatClampNeg) z_13))), (c6, .inl (T 0, 24, .inl (upd f6 (x1.toNatClampNeg) z_16))), (c7, .inl (T 0, 24, .inl f7))] hP hD rfl
        refine lv_aload_n hx hb dX2_measure_156 rfl (lv_at hl 4 rfl) ?_
        refine va_get (D := D) (ci := 1) (v := .ref c7) (C := RX2) (T := TX2) (N := 8) hx hb hts in_X2_measure_X2 hown hE.1 hP 0 rfl rfl 7 (by decide +kernel) (hts (.fieldLink RX2 34 "ClauseBook$Clauses" "deep" "[I") (List.mem_of_getElem? (i := 5) rfl)) (fun _ h9 => h9) rfl dX2_measure_157 ?_
        refine lv_iload_n hx hb dX2_measure_160 rfl (lv_at hl 5 rfl) ?_
        refine lv_iload hx hb dX2_measure_161 (lv_at hl 0 rfl) ?_
        refine lv_iconst (v := 1) hx hb dX2_measure_163 (by decide +kernel) ?_
        refine lv_iadd hx hb dX2_measure_164 ?_
        refine va_iast hx hb hE.1 hP hD hS 7 0 rfl rfl (by rw [vp_in_iff]; first | omega | (subst_vars; omega)) dX2_measure_165 (fun H locs hP hD hS => ?_)
        obtain ⟨hP, hD⟩ := wPD [(h0, .inr (1, [.int n0, .ref c1, .ref c2, .ref c3, .ref c4, .ref c5, .ref c6, .ref c7])), (c1, .inl (T 0, 24, .inl f1)), (c2, .inl (T 0, 24, .inl f2)), (c3, .inl (T 0, 24, .inl f3)), (c4, .inl (T 0, 24, .inl f4)), (c5, .inl (T 0, 24, .inl (upd f5 (x1.toNatClampNeg) z_13))), (c6, .inl (T 0, 24, .inl (upd f6 (x1.toNatClampNeg) z_16))), (c7, .inl (T 0, 24, .inl (upd f7 (x1.toNatClampNeg) (z_19 + 1))))] hP hD rfl
        exact W.vret hx hb hr (fun t ht hW => ⟨⟨((upd f5 (x1.toNatClampNeg) z_13), (upd f6 (x1.toNatClampNeg) z_16), (upd f7 (x1.toNatClampNeg) (z_19 + 1))), rfl, ⟨(fun j hj => by
        show ((upd f5 (x1.toNatClampNeg) z_13) j).toInt ≤ 6
        by_cases hjx : j = x1.toNatClampNeg
        · simp only [upd, if_pos hjx]; first | omega | decide
        · simp only [upd, if_neg hjx]; exact (hok j hj).2.2.2), (by exfalso; omega)⟩, by rw [ht]; exact hP.sub [0, 1, 2, 3, 4, 5, 6, 7] rfl, hD.sub [0, 1, 2, 3, 4, 5, 6, 7] (by decide +kernel) rfl⟩, hS.F ht⟩) hS.2.2 dX2_measure_166
      · refine lv_iload_n hx hb dX2_measure_130 rfl (lv_at hl 2 rfl) ?_
        refine lv_aload_n hx hb dX2_measure_131 rfl (lv_at hl 4 rfl) ?_
        refine va_get (D := D) (ci := 1) (v := .ref c2) (C := RX2) (T := TX2) (N := 8) hx hb hts in_X2_measure_X2 hown hE.1 hP 0 rfl rfl 2 (by decide +kernel) (hts (.fieldLink RX2 19 "ClauseBook$Clauses" "n" "[I") (List.mem_of_getElem? (i := 12) rfl)) (fun _ h9 => h9) rfl dX2_measure_132 ?_
        refine lv_iload_n hx hb dX2_measure_135 rfl (lv_at hl 5 rfl) ?_
        refine va_iald hx hb hE.1 hP 2 0 rfl rfl (by rw [vp_in_iff]; first | omega | (subst_vars; omega)) dX2_measure_136 ?_
        refine lv_topi (fun z_22 ez_22 => ?_)
        refine va_mmin hx hb (hml.trans hl.1.symm) hown (hts (.methodLink RX2 72 Lib.Math.min.name) (List.mem_of_getElem? (i := 13) rfl)) (hts (.static Lib.Math.min.name) (List.mem_of_getElem? (i := 14) rfl)) (hts (.initialized "java/lang/Math") (List.mem_of_getElem? (i := 9) rfl)) (hts (.code Lib.Math.min.name Lib.Math.min.code 2 (some .int)) (List.mem_of_getElem? (i := 15) rfl)) (Nat.le_of_ble_eq_true rfl) (Nat.le_of_ble_eq_true rfl) (Nat.le_of_ble_eq_true rfl) (Nat.le_of_ble_eq_true rfl) dX2_measure_137 ?_
        refine lv_topi (fun z_23 ez_23 => ?_)
        have h6z_23 : z_23.toInt ≤ 6 := by
          rw [ez_23]
          have h66 := ti_6
          split
          · rename_i h
            rw [fa_lt] at h
            omega
          · omega
        refine lv_istore_n (lv' := [(3, .int z_23), (5, .int z_19), (4, .int z_16), (2, .int z_2), (0, .ref h0), (1, .int x1)]) hx hb dX2_measure_140 rfl hl (by decide +kernel) rfl (fun ls hl => ?_)
        refine lv_aload_n hx hb dX2_measure_141 rfl (lv_at hl 4 rfl) ?_
        refine va_get (D := D) (ci := 1) (v := .ref c5) (C := RX2) (T := TX2) (N := 8) hx hb hts in_X2_measure_X2 hown hE.1 hP 0 rfl rfl 5 (by decide +kernel) (hts (.fieldLink RX2 28 "ClauseBook$Clauses" "end" "[I") (List.mem_of_getElem? (i := 2) rfl)) (fun _ h9 => h9) rfl dX2_measure_142 ?_
        refine lv_iload_n hx hb dX2_measure_145 rfl (lv_at hl 5 rfl) ?_
        refine lv_iload_n hx hb dX2_measure_146 rfl (lv_at hl 0 rfl) ?_
        refine va_iast hx hb hE.1 hP hD hS 5 0 rfl rfl (by rw [vp_in_iff]; first | omega | (subst_vars; omega)) dX2_measure_147 (fun H locs hP hD hS => ?_)
        obtain ⟨hP, hD⟩ := wPD [(h0, .inr (1, [.int n0, .ref c1, .ref c2, .ref c3, .ref c4, .ref c5, .ref c6, .ref c7])), (c1, .inl (T 0, 24, .inl f1)), (c2, .inl (T 0, 24, .inl f2)), (c3, .inl (T 0, 24, .inl f3)), (c4, .inl (T 0, 24, .inl f4)), (c5, .inl (T 0, 24, .inl (upd f5 (x1.toNatClampNeg) z_23))), (c6, .inl (T 0, 24, .inl f6)), (c7, .inl (T 0, 24, .inl f7))] hP hD rfl
        refine lv_aload_n hx hb dX2_measure_148 rfl (lv_at hl 4 rfl) ?_
        refine va_get (D := D) (ci := 1) (v := .ref c6) (C := RX2) (T := TX2) (N := 8) hx hb hts in_X2_measure_X2 hown hE.1 hP 0 rfl rfl 6 (by decide +kernel) (hts (.fieldLink RX2 31 "ClauseBook$Clauses" "made" "[I") (List.mem_of_getElem? (i := 4) rfl)) (fun _ h9 => h9) rfl dX2_measure_149 ?_
        refine lv_iload_n hx hb dX2_measure_152 rfl (lv_at hl 5 rfl) ?_
        refine lv_iload hx hb dX2_measure_153 (lv_at hl 2 rfl) ?_
        refine va_iast hx hb hE.1 hP hD hS 6 0 rfl rfl (by rw [vp_in_iff]; first | omega | (subst_vars; omega)) dX2_measure_155 (fun H locs hP hD hS => ?_)
        obtain ⟨hP, hD⟩ := wPD [(h0, .inr (1, [.int n0, .ref c1, .ref c2, .ref c3, .ref c4, .ref c5, .ref c6, .ref c7])), (c1, .inl (T 0, 24, .inl f1)), (c2, .inl (T 0, 24, .inl f2)), (c3, .inl (T 0, 24, .inl f3)), (c4, .inl (T 0, 24, .inl f4)), (c5, .inl (T 0, 24, .inl (upd f5 (x1.toNatClampNeg) z_23))), (c6, .inl (T 0, 24, .inl (upd f6 (x1.toNatClampNeg) z_16))), (c7, .inl (T 0, 24, .inl f7))] hP hD rfl
        refine lv_aload_n hx hb dX2_measure_156 rfl (lv_at hl 4 rfl) ?_
        refine va_get (D := D) (ci := 1) (v := .ref c7) (C := RX2) (T := TX2) (N := 8) hx hb hts in_X2_measure_X2 hown hE.1 hP 0 rfl rfl 7 (by decide +kernel) (hts (.fieldLink RX2 34 "ClauseBook$Clauses" "deep" "[I") (List.mem_of_getElem? (i := 5) rfl)) (fun _ h9 => h9) rfl dX2_measure_157 ?_
        refine lv_iload_n hx hb dX2_measure_160 rfl (lv_at hl 5 rfl) ?_
        refine lv_iload hx hb dX2_measure_161 (lv_at hl 1 rfl) ?_
        refine lv_iconst (v := 1) hx hb dX2_measure_163 (by decide +kernel) ?_
        refine lv_iadd hx hb dX2_measure_164 ?_
        refine va_iast hx hb hE.1 hP hD hS 7 0 rfl rfl (by rw [vp_in_iff]; first | omega | (subst_vars; omega)) dX2_measure_165 (fun H locs hP hD hS => ?_)
        obtain ⟨hP, hD⟩ := wPD [(h0, .inr (1, [.int n0, .ref c1, .ref c2, .ref c3, .ref c4, .ref c5, .ref c6, .ref c7])), (c1, .inl (T 0, 24, .inl f1)), (c2, .inl (T 0, 24, .inl f2)), (c3, .inl (T 0, 24, .inl f3)), (c4, .inl (T 0, 24, .inl f4)), (c5, .inl (T 0, 24, .inl (upd f5 (x1.toNatClampNeg) z_23))), (c6, .inl (T 0, 24, .inl (upd f6 (x1.toNatClampNeg) z_16))), (c7, .inl (T 0, 24, .inl (upd f7 (x1.toNatClampNeg) (z_19 + 1))))] hP hD rfl
        exact W.vret hx hb hr (fun t ht hW => ⟨⟨((upd f5 (x1.toNatClampNeg) z_23), (upd f6 (x1.toNatClampNeg) z_16), (upd f7 (x1.toNatClampNeg) (z_19 + 1))), rfl, ⟨(fun j hj => by
        show ((upd f5 (x1.toNatClampNeg) z_23) j).toInt ≤ 6
        by_cases hjx : j = x1.toNatClampNeg
        · simp only [upd, if_pos hjx]; first | omega | decide
        · simp only [upd, if_neg hjx]; exact (hok j hj).2.2.2), (by exfalso; omega)⟩, by rw [ht]; exact hP.sub [0, 1, 2, 3, 4, 5, 6, 7] rfl, hD.sub [0, 1, 2, 3, 4, 5, 6, 7] (by decide +kernel) rfl⟩, hS.F ht⟩) hS.2.2 dX2_measure_166
  · rw [fa_lt] at c_3
    try rw [ti_1] at c_3
    have hc9 : 0 ≤ (f3 (x1.toNatClampNeg)).toInt ∧ (f3 (x1.toNatClampNeg)).toInt < x1.toInt := by
      have h := (hok _ (in24 (x := x1) (by omega)).1).2.1 (by rw [← ez_2]; omega)
      have h2 := (in24 (x := x1) (by omega)).2
      omega
    refine lv_aload_n hx hb dX2_measure_23 rfl (lv_at hl 4 rfl) ?_
    refine va_get (D := D) (ci := 1) (v := .ref c5) (C := RX2) (T := TX2) (N := 8) hx hb hts in_X2_measure_X2 hown hE.1 hP 0 rfl rfl 5 (by decide +kernel) (hts (.fieldLink RX2 28 "ClauseBook$Clauses" "end" "[I") (List.mem_of_getElem? (i := 2) rfl)) (fun _ h9 => h9) rfl dX2_measure_24 ?_
    refine lv_aload_n hx hb dX2_measure_27 rfl (lv_at hl 4 rfl) ?_
    refine va_get (D := D) (ci := 1) (v := .ref c3) (C := RX2) (T := TX2) (N := 8) hx hb hts in_X2_measure_X2 hown hE.1 hP 0 rfl rfl 3 (by decide +kernel) (hts (.fieldLink RX2 22 "ClauseBook$Clauses" "c" "[I") (List.mem_of_getElem? (i := 3) rfl)) (fun _ h9 => h9) rfl dX2_measure_28 ?_
    refine lv_iload_n hx hb dX2_measure_31 rfl (lv_at hl 5 rfl) ?_
    refine va_iald hx hb hE.1 hP 3 0 rfl rfl (by rw [vp_in_iff]; first | omega | (subst_vars; omega)) dX2_measure_32 ?_
    refine lv_topi (fun z_24 ez_24 => ?_)
    refine va_iald hx hb hE.1 hP 5 0 rfl rfl (by rw [vp_in_iff]; first | omega | (subst_vars; omega)) dX2_measure_33 ?_
    refine lv_topi (fun z_25 ez_25 => ?_)
    have h6z_25 : z_25.toInt ≤ 6 := by
      rw [ez_25]
      exact (hok _ (in24 (by subst_vars; omega)).1).2.2.2
    refine lv_istore_n (lv' := [(3, .int z_25), (5, .int 0), (4, .int 1), (2, .int z_2), (0, .ref h0), (1, .int x1)]) hx hb dX2_measure_34 rfl hl (by decide +kernel) rfl (fun ls hl => ?_)
    refine lv_iload hx hb dX2_measure_35 (lv_at hl 2 rfl) ?_
    refine lv_aload_n hx hb dX2_measure_37 rfl (lv_at hl 4 rfl) ?_
    refine va_get (D := D) (ci := 1) (v := .ref c6) (C := RX2) (T := TX2) (N := 8) hx hb hts in_X2_measure_X2 hown hE.1 hP 0 rfl rfl 6 (by decide +kernel) (hts (.fieldLink RX2 31 "ClauseBook$Clauses" "made" "[I") (List.mem_of_getElem? (i := 4) rfl)) (fun _ h9 => h9) rfl dX2_measure_38 ?_
    refine lv_aload_n hx hb dX2_measure_41 rfl (lv_at hl 4 rfl) ?_
    refine va_get (D := D) (ci := 1) (v := .ref c3) (C := RX2) (T := TX2) (N := 8) hx hb hts in_X2_measure_X2 hown hE.1 hP 0 rfl rfl 3 (by decide +kernel) (hts (.fieldLink RX2 22 "ClauseBook$Clauses" "c" "[I") (List.mem_of_getElem? (i := 3) rfl)) (fun _ h9 => h9) rfl dX2_measure_42 ?_
    refine lv_iload_n hx hb dX2_measure_45 rfl (lv_at hl 5 rfl) ?_
    refine va_iald hx hb hE.1 hP 3 0 rfl rfl (by rw [vp_in_iff]; first | omega | (subst_vars; omega)) dX2_measure_46 ?_
    refine lv_topi (fun z_26 ez_26 => ?_)
    refine va_iald hx hb hE.1 hP 6 0 rfl rfl (by rw [vp_in_iff]; first | omega | (subst_vars; omega)) dX2_measure_47 ?_
    refine lv_topi (fun z_27 ez_27 => ?_)
    refine lv_iadd hx hb dX2_measure_48 ?_
    refine lv_topi (fun z_28 ez_28 => ?_)
    refine lv_istore (lv' := [(4, .int z_28), (3, .int z_25), (5, .int 0), (2, .int z_2), (0, .ref h0), (1, .int x1)]) hx hb dX2_measure_49 hl (by decide +kernel) rfl (fun ls hl => ?_)
    refine lv_aload_n hx hb dX2_measure_51 rfl (lv_at hl 4 rfl) ?_
    refine va_get (D := D) (ci := 1) (v := .ref c7) (C := RX2) (T := TX2) (N := 8) hx hb hts in_X2_measure_X2 hown hE.1 hP 0 rfl rfl 7 (by decide +kernel) (hts (.fieldLink RX2 34 "ClauseBook$Clauses" "deep" "[I") (List.mem_of_getElem? (i := 5) rfl)) (fun _ h9 => h9) rfl dX2_measure_52 ?_
    refine lv_aload_n hx hb dX2_measure_55 rfl (lv_at hl 4 rfl) ?_
    refine va_get (D := D) (ci := 1) (v := .ref c3) (C := RX2) (T := TX2) (N := 8) hx hb hts in_X2_measure_X2 hown hE.1 hP 0 rfl rfl 3 (by decide +kernel) (hts (.fieldLink RX2 22 "ClauseBook$Clauses" "c" "[I") (List.mem_of_getElem? (i := 3) rfl)) (fun _ h9 => h9) rfl dX2_measure_56 ?_
    refine lv_iload_n hx hb dX2_measure_59 rfl (lv_at hl 5 rfl) ?_
    refine va_iald hx hb hE.1 hP 3 0 rfl rfl (by rw [vp_in_iff]; first | omega | (subst_vars; omega)) dX2_measure_60 ?_
    refine lv_topi (fun z_29 ez_29 => ?_)
    refine va_iald hx hb hE.1 hP 7 0 rfl rfl (by rw [vp_in_iff]; first | omega | (subst_vars; omega)) dX2_measure_61 ?_
    refine lv_topi (fun z_30 ez_30 => ?_)
    refine lv_istore (lv' := [(5, .int z_30), (4, .int z_28), (3, .int z_25), (2, .int z_2), (0, .ref h0), (1, .int x1)]) hx hb dX2_measure_62 hl (by decide +kernel) rfl (fun ls hl => ?_)
    refine lv_iload_n hx hb dX2_measure_64 rfl (lv_at hl 3 rfl) ?_
    refine lv_iconst (v := 2) hx hb dX2_measure_65 (by decide +kernel) ?_
    refine lv_icmp_ne (tgt := 119) hx hb dX2_measure_66 (by decide +kernel) (fun c_31 => ?_) (fun c_31 => ?_)
    · rw [fa_eq] at c_31
      try rw [ti_2] at c_31
      refine lv_aload_n hx hb dX2_measure_119 rfl (lv_at hl 4 rfl) ?_
      refine lv_iload_n hx hb dX2_measure_120 rfl (lv_at hl 5 rfl) ?_
      refine va_cse (W.runV (As := [.int x1]) (rest := []) ⟨hx, hb, hml, hown, hts⟩ (c_X2_kindOf l D T ad sa av ta h0 [.int n0, .ref c1, .ref c2, .ref c3, .ref c4, .ref c5, .ref c6, .ref c7] c1 f1 x1 rfl (by omega) ((hok _ (in24 (x := x1) (by omega)).1).1)) (cwV 1 hts gX2_measure_X2_kindOf rfl rfl rfl hv_X2_kindOf ⟨Nat.le_of_ble_eq_true rfl, Nat.le_of_ble_eq_true rfl⟩) (pRk_V (q := (RX2, TX2, 8)) (ci := 1) (q0 := 0) hP hE hV hS rfl rfl [0, 1] rfl) rfl rfl hl.1 rfl (lv_room (Nat.le_of_ble_eq_true rfl)) dX2_measure_121 ⟨Nat.le_of_ble_eq_true rfl, Nat.le_of_ble_eq_true rfl⟩) (fun r_32 hr_32 => ?_)
      subst hr_32
      refine W.eq (g2 := F0 m 124 ls [.ref (ad ((f1 (x1.toNatClampNeg)).toNatClampNeg))]) rfl ?_
      refine va_gets (v := .ref (ad 8)) hx hb (hV.1.1.1 8 (by decide +kernel)).1 hS hown (hts (.fieldLink RX2 68 "ClauseBook$Kind" "UNTIL" "LClauseBook$Kind;") (List.mem_of_getElem? (i := 11) rfl)) (fun _ h9 => h9) dX2_measure_124 ?_
      refine lv_acmp_ne (rx := some (ad ((f1 (x1.toNatClampNeg)).toNatClampNeg))) (ry := some (ad 8)) (tgt := 141) hx hb dX2_measure_127 (by decide +kernel) (fun c_33 => ?_) (fun c_33 => ?_)
      · refine lv_aload_n hx hb dX2_measure_141 rfl (lv_at hl 4 rfl) ?_
        refine va_get (D := D) (ci := 1) (v := .ref c5) (C := RX2) (T := TX2) (N := 8) hx hb hts in_X2_measure_X2 hown hE.1 hP 0 rfl rfl 5 (by decide +kernel) (hts (.fieldLink RX2 28 "ClauseBook$Clauses" "end" "[I") (List.mem_of_getElem? (i := 2) rfl)) (fun _ h9 => h9) rfl dX2_measure_142 ?_
        refine lv_iload_n hx hb dX2_measure_145 rfl (lv_at hl 5 rfl) ?_
        refine lv_iload_n hx hb dX2_measure_146 rfl (lv_at hl 2 rfl) ?_
        refine va_iast hx hb hE.1 hP hD hS 5 0 rfl rfl (by rw [vp_in_iff]; first | omega | (subst_vars; omega)) dX2_measure_147 (fun H locs hP hD hS => ?_)
        obtain ⟨hP, hD⟩ := wPD [(h0, .inr (1, [.int n0, .ref c1, .ref c2, .ref c3, .ref c4, .ref c5, .ref c6, .ref c7])), (c1, .inl (T 0, 24, .inl f1)), (c2, .inl (T 0, 24, .inl f2)), (c3, .inl (T 0, 24, .inl f3)), (c4, .inl (T 0, 24, .inl f4)), (c5, .inl (T 0, 24, .inl (upd f5 (x1.toNatClampNeg) z_25))), (c6, .inl (T 0, 24, .inl f6)), (c7, .inl (T 0, 24, .inl f7))] hP hD rfl
        refine lv_aload_n hx hb dX2_measure_148 rfl (lv_at hl 4 rfl) ?_
        refine va_get (D := D) (ci := 1) (v := .ref c6) (C := RX2) (T := TX2) (N := 8) hx hb hts in_X2_measure_X2 hown hE.1 hP 0 rfl rfl 6 (by decide +kernel) (hts (.fieldLink RX2 31 "ClauseBook$Clauses" "made" "[I") (List.mem_of_getElem? (i := 4) rfl)) (fun _ h9 => h9) rfl dX2_measure_149 ?_
        refine lv_iload_n hx hb dX2_measure_152 rfl (lv_at hl 5 rfl) ?_
        refine lv_iload hx hb dX2_measure_153 (lv_at hl 1 rfl) ?_
        refine va_iast hx hb hE.1 hP hD hS 6 0 rfl rfl (by rw [vp_in_iff]; first | omega | (subst_vars; omega)) dX2_measure_155 (fun H locs hP hD hS => ?_)
        obtain ⟨hP, hD⟩ := wPD [(h0, .inr (1, [.int n0, .ref c1, .ref c2, .ref c3, .ref c4, .ref c5, .ref c6, .ref c7])), (c1, .inl (T 0, 24, .inl f1)), (c2, .inl (T 0, 24, .inl f2)), (c3, .inl (T 0, 24, .inl f3)), (c4, .inl (T 0, 24, .inl f4)), (c5, .inl (T 0, 24, .inl (upd f5 (x1.toNatClampNeg) z_25))), (c6, .inl (T 0, 24, .inl (upd f6 (x1.toNatClampNeg) z_28))), (c7, .inl (T 0, 24, .inl f7))] hP hD rfl
        refine lv_aload_n hx hb dX2_measure_156 rfl (lv_at hl 4 rfl) ?_
        refine va_get (D := D) (ci := 1) (v := .ref c7) (C := RX2) (T := TX2) (N := 8) hx hb hts in_X2_measure_X2 hown hE.1 hP 0 rfl rfl 7 (by decide +kernel) (hts (.fieldLink RX2 34 "ClauseBook$Clauses" "deep" "[I") (List.mem_of_getElem? (i := 5) rfl)) (fun _ h9 => h9) rfl dX2_measure_157 ?_
        refine lv_iload_n hx hb dX2_measure_160 rfl (lv_at hl 5 rfl) ?_
        refine lv_iload hx hb dX2_measure_161 (lv_at hl 0 rfl) ?_
        refine lv_iconst (v := 1) hx hb dX2_measure_163 (by decide +kernel) ?_
        refine lv_iadd hx hb dX2_measure_164 ?_
        refine va_iast hx hb hE.1 hP hD hS 7 0 rfl rfl (by rw [vp_in_iff]; first | omega | (subst_vars; omega)) dX2_measure_165 (fun H locs hP hD hS => ?_)
        obtain ⟨hP, hD⟩ := wPD [(h0, .inr (1, [.int n0, .ref c1, .ref c2, .ref c3, .ref c4, .ref c5, .ref c6, .ref c7])), (c1, .inl (T 0, 24, .inl f1)), (c2, .inl (T 0, 24, .inl f2)), (c3, .inl (T 0, 24, .inl f3)), (c4, .inl (T 0, 24, .inl f4)), (c5, .inl (T 0, 24, .inl (upd f5 (x1.toNatClampNeg) z_25))), (c6, .inl (T 0, 24, .inl (upd f6 (x1.toNatClampNeg) z_28))), (c7, .inl (T 0, 24, .inl (upd f7 (x1.toNatClampNeg) (z_30 + 1))))] hP hD rfl
        exact W.vret hx hb hr (fun t ht hW => ⟨⟨((upd f5 (x1.toNatClampNeg) z_25), (upd f6 (x1.toNatClampNeg) z_28), (upd f7 (x1.toNatClampNeg) (z_30 + 1))), rfl, ⟨(fun j hj => by
        show ((upd f5 (x1.toNatClampNeg) z_25) j).toInt ≤ 6
        by_cases hjx : j = x1.toNatClampNeg
        · simp only [upd, if_pos hjx]; first | omega | decide
        · simp only [upd, if_neg hjx]; exact (hok j hj).2.2.2), ⟨_, _, _, rfl, rfl, rfl, (mesE_no (fun e9 => c_33 (by rw [e9])) (endB_1 (by rw [← ez_2]; omega) ez_25 ez_24)), (mesM_1 (by rw [← ez_2]; omega) ez_28 ez_27 ez_26), (mesD_1 (by rw [← ez_2]; omega) ez_30 ez_29)⟩⟩, by rw [ht]; exact hP.sub [0, 1, 2, 3, 4, 5, 6, 7] rfl, hD.sub [0, 1, 2, 3, 4, 5, 6, 7] (by decide +kernel) rfl⟩, hS.F ht⟩) hS.2.2 dX2_measure_166
      · refine lv_iload_n hx hb dX2_measure_130 rfl (lv_at hl 2 rfl) ?_
        refine lv_aload_n hx hb dX2_measure_131 rfl (lv_at hl 4 rfl) ?_
        refine va_get (D := D) (ci := 1) (v := .ref c2) (C := RX2) (T := TX2) (N := 8) hx hb hts in_X2_measure_X2 hown hE.1 hP 0 rfl rfl 2 (by decide +kernel) (hts (.fieldLink RX2 19 "ClauseBook$Clauses" "n" "[I") (List.mem_of_getElem? (i := 12) rfl)) (fun _ h9 => h9) rfl dX2_measure_132 ?_
        refine lv_iload_n hx hb dX2_measure_135 rfl (lv_at hl 5 rfl) ?_
        refine va_iald hx hb hE.1 hP 2 0 rfl rfl (by rw [vp_in_iff]; first | omega | (subst_vars; omega)) dX2_measure_136 ?_
        refine lv_topi (fun z_34 ez_34 => ?_)
        refine va_mmin hx hb (hml.trans hl.1.symm) hown (hts (.methodLink RX2 72 Lib.Math.min.name) (List.mem_of_getElem? (i := 13) rfl)) (hts (.static Lib.Math.min.name) (List.mem_of_getElem? (i := 14) rfl)) (hts (.initialized "java/lang/Math") (List.mem_of_getElem? (i := 9) rfl)) (hts (.code Lib.Math.min.name Lib.Math.min.code 2 (some .int)) (List.mem_of_getElem? (i := 15) rfl)) (Nat.le_of_ble_eq_true rfl) (Nat.le_of_ble_eq_true rfl) (Nat.le_of_ble_eq_true rfl) (Nat.le_of_ble_eq_true rfl) dX2_measure_137 ?_
        refine lv_topi (fun z_35 ez_35 => ?_)
        have h6z_35 : z_35.toInt ≤ 6 := by
          rw [ez_35]
          have h66 := ti_6
          split
          · rename_i h
            rw [fa_lt] at h
            omega
          · omega
        refine lv_istore_n (lv' := [(3, .int z_35), (5, .int z_30), (4, .int z_28), (2, .int z_2), (0, .ref h0), (1, .int x1)]) hx hb dX2_measure_140 rfl hl (by decide +kernel) rfl (fun ls hl => ?_)
        refine lv_aload_n hx hb dX2_measure_141 rfl (lv_at hl 4 rfl) ?_
        refine va_get (D := D) (ci := 1) (v := .ref c5) (C := RX2) (T := TX2) (N := 8) hx hb hts in_X2_measure_X2 hown hE.1 hP 0 rfl rfl 5 (by decide +kernel) (hts (.fieldLink RX2 28 "ClauseBook$Clauses" "end" "[I") (List.mem_of_getElem? (i := 2) rfl)) (fun _ h9 => h9) rfl dX2_measure_142 ?_
        refine lv_iload_n hx hb dX2_measure_145 rfl (lv_at hl 5 rfl) ?_
        refine lv_iload_n hx hb dX2_measure_146 rfl (lv_at hl 0 rfl) ?_
        refine va_iast hx hb hE.1 hP hD hS 5 0 rfl rfl (by rw [vp_in_iff]; first | omega | (subst_vars; omega)) dX2_measure_147 (fun H locs hP hD hS => ?_)
        obtain ⟨hP, hD⟩ := wPD [(h0, .inr (1, [.int n0, .ref c1, .ref c2, .ref c3, .ref c4, .ref c5, .ref c6, .ref c7])), (c1, .inl (T 0, 24, .inl f1)), (c2, .inl (T 0, 24, .inl f2)), (c3, .inl (T 0, 24, .inl f3)), (c4, .inl (T 0, 24, .inl f4)), (c5, .inl (T 0, 24, .inl (upd f5 (x1.toNatClampNeg) z_35))), (c6, .inl (T 0, 24, .inl f6)), (c7, .inl (T 0, 24, .inl f7))] hP hD rfl
        refine lv_aload_n hx hb dX2_measure_148 rfl (lv_at hl 4 rfl) ?_
        refine va_get (D := D) (ci := 1) (v := .ref c6) (C := RX2) (T := TX2) (N := 8) hx hb hts in_X2_measure_X2 hown hE.1 hP 0 rfl rfl 6 (by decide +kernel) (hts (.fieldLink RX2 31 "ClauseBook$Clauses" "made" "[I") (List.mem_of_getElem? (i := 4) rfl)) (fun _ h9 => h9) rfl dX2_measure_149 ?_
        refine lv_iload_n hx hb dX2_measure_152 rfl (lv_at hl 5 rfl) ?_
        refine lv_iload hx hb dX2_measure_153 (lv_at hl 2 rfl) ?_
        refine va_iast hx hb hE.1 hP hD hS 6 0 rfl rfl (by rw [vp_in_iff]; first | omega | (subst_vars; omega)) dX2_measure_155 (fun H locs hP hD hS => ?_)
        obtain ⟨hP, hD⟩ := wPD [(h0, .inr (1, [.int n0, .ref c1, .ref c2, .ref c3, .ref c4, .ref c5, .ref c6, .ref c7])), (c1, .inl (T 0, 24, .inl f1)), (c2, .inl (T 0, 24, .inl f2)), (c3, .inl (T 0, 24, .inl f3)), (c4, .inl (T 0, 24, .inl f4)), (c5, .inl (T 0, 24, .inl (upd f5 (x1.toNatClampNeg) z_35))), (c6, .inl (T 0, 24, .inl (upd f6 (x1.toNatClampNeg) z_28))), (c7, .inl (T 0, 24, .inl f7))] hP hD rfl
        refine lv_aload_n hx hb dX2_measure_156 rfl (lv_at hl 4 rfl) ?_
        refine va_get (D := D) (ci := 1) (v := .ref c7) (C := RX2) (T := TX2) (N := 8) hx hb hts in_X2_measure_X2 hown hE.1 hP 0 rfl rfl 7 (by decide +kernel) (hts (.fieldLink RX2 34 "ClauseBook$Clauses" "deep" "[I") (List.mem_of_getElem? (i := 5) rfl)) (fun _ h9 => h9) rfl dX2_measure_157 ?_
        refine lv_iload_n hx hb dX2_measure_160 rfl (lv_at hl 5 rfl) ?_
        refine lv_iload hx hb dX2_measure_161 (lv_at hl 1 rfl) ?_
        refine lv_iconst (v := 1) hx hb dX2_measure_163 (by decide +kernel) ?_
        refine lv_iadd hx hb dX2_measure_164 ?_
        refine va_iast hx hb hE.1 hP hD hS 7 0 rfl rfl (by rw [vp_in_iff]; first | omega | (subst_vars; omega)) dX2_measure_165 (fun H locs hP hD hS => ?_)
        obtain ⟨hP, hD⟩ := wPD [(h0, .inr (1, [.int n0, .ref c1, .ref c2, .ref c3, .ref c4, .ref c5, .ref c6, .ref c7])), (c1, .inl (T 0, 24, .inl f1)), (c2, .inl (T 0, 24, .inl f2)), (c3, .inl (T 0, 24, .inl f3)), (c4, .inl (T 0, 24, .inl f4)), (c5, .inl (T 0, 24, .inl (upd f5 (x1.toNatClampNeg) z_35))), (c6, .inl (T 0, 24, .inl (upd f6 (x1.toNatClampNeg) z_28))), (c7, .inl (T 0, 24, .inl (upd f7 (x1.toNatClampNeg) (z_30 + 1))))] hP hD rfl
        exact W.vret hx hb hr (fun t ht hW => ⟨⟨((upd f5 (x1.toNatClampNeg) z_35), (upd f6 (x1.toNatClampNeg) z_28), (upd f7 (x1.toNatClampNeg) (z_30 + 1))), rfl, ⟨(fun j hj => by
        show ((upd f5 (x1.toNatClampNeg) z_35) j).toInt ≤ 6
        by_cases hjx : j = x1.toNatClampNeg
        · simp only [upd, if_pos hjx]; first | omega | decide
        · simp only [upd, if_neg hjx]; exact (hok j hj).2.2.2), ⟨_, _, _, rfl, rfl, rfl, (mesE_yes (hV.1.1.2 _ 8 (in13c ((hok _ (in24 (x := x1) (by omega)).1).1)) (by decide +kernel) (Option.some.inj c_33)) (endB_1 (by rw [← ez_2]; omega) ez_25 ez_24) ez_35 ez_34), (mesM_1 (by rw [← ez_2]; omega) ez_28 ez_27 ez_26), (mesD_1 (by rw [← ez_2]; omega) ez_30 ez_29)⟩⟩, by rw [ht]; exact hP.sub [0, 1, 2, 3, 4, 5, 6, 7] rfl, hD.sub [0, 1, 2, 3, 4, 5, 6, 7] (by decide +kernel) rfl⟩, hS.F ht⟩) hS.2.2 dX2_measure_166
    · rw [fa_eq] at c_31
      try rw [ti_2] at c_31
      have hd9 : 0 ≤ (f4 (x1.toNatClampNeg)).toInt ∧ (f4 (x1.toNatClampNeg)).toInt < x1.toInt := by
        have h := (hok _ (in24 (x := x1) (by omega)).1).2.2.1 (by rw [← ez_2]; omega)
        have h2 := (in24 (x := x1) (by omega)).2
        omega
      refine lv_iload_n hx hb dX2_measure_69 rfl (lv_at hl 2 rfl) ?_
      refine lv_aload_n hx hb dX2_measure_70 rfl (lv_at hl 4 rfl) ?_
      refine va_get (D := D) (ci := 1) (v := .ref c5) (C := RX2) (T := TX2) (N := 8) hx hb hts in_X2_measure_X2 hown hE.1 hP 0 rfl rfl 5 (by decide +kernel) (hts (.fieldLink RX2 28 "ClauseBook$Clauses" "end" "[I") (List.mem_of_getElem? (i := 2) rfl)) (fun _ h9 => h9) rfl dX2_measure_71 ?_
      refine lv_aload_n hx hb dX2_measure_74 rfl (lv_at hl 4 rfl) ?_
      refine va_get (D := D) (ci := 1) (v := .ref c4) (C := RX2) (T := TX2) (N := 8) hx hb hts in_X2_measure_X2 hown hE.1 hP 0 rfl rfl 4 (by decide +kernel) (hts (.fieldLink RX2 25 "ClauseBook$Clauses" "d" "[I") (List.mem_of_getElem? (i := 6) rfl)) (fun _ h9 => h9) rfl dX2_measure_75 ?_
      refine lv_iload_n hx hb dX2_measure_78 rfl (lv_at hl 5 rfl) ?_
      refine va_iald hx hb hE.1 hP 4 0 rfl rfl (by rw [vp_in_iff]; first | omega | (subst_vars; omega)) dX2_measure_79 ?_
      refine lv_topi (fun z_36 ez_36 => ?_)
      refine va_iald hx hb hE.1 hP 5 0 rfl rfl (by rw [vp_in_iff]; first | omega | (subst_vars; omega)) dX2_measure_80 ?_
      refine lv_topi (fun z_37 ez_37 => ?_)
      have h6z_37 : z_37.toInt ≤ 6 := by
        rw [ez_37]
        exact (hok _ (in24 (by subst_vars; omega)).1).2.2.2
      refine va_mmax hx hb (hml.trans hl.1.symm) hown (hts (.methodLink RX2 62 Lib.Math.max.name) (List.mem_of_getElem? (i := 7) rfl)) (hts (.static Lib.Math.max.name) (List.mem_of_getElem? (i := 8) rfl)) (hts (.initialized "java/lang/Math") (List.mem_of_getElem? (i := 9) rfl)) (hts (.code Lib.Math.max.name Lib.Math.max.code 2 (some .int)) (List.mem_of_getElem? (i := 10) rfl)) (Nat.le_of_ble_eq_true rfl) (Nat.le_of_ble_eq_true rfl) (Nat.le_of_ble_eq_true rfl) (Nat.le_of_ble_eq_true rfl) dX2_measure_81 ?_
      refine lv_topi (fun z_38 ez_38 => ?_)
      have h6z_38 : z_38.toInt ≤ 6 := by
        rw [ez_38]
        have h66 := ti_6
        split
        · rename_i h
          rw [fa_lt] at h
          omega
        · omega
      refine lv_istore_n (lv' := [(3, .int z_38), (5, .int z_30), (4, .int z_28), (2, .int z_2), (0, .ref h0), (1, .int x1)]) hx hb dX2_measure_84 rfl hl (by decide +kernel) rfl (fun ls hl => ?_)
      refine lv_iload hx hb dX2_measure_85 (lv_at hl 2 rfl) ?_
      refine lv_aload_n hx hb dX2_measure_87 rfl (lv_at hl 4 rfl) ?_
      refine va_get (D := D) (ci := 1) (v := .ref c6) (C := RX2) (T := TX2) (N := 8) hx hb hts in_X2_measure_X2 hown hE.1 hP 0 rfl rfl 6 (by decide +kernel) (hts (.fieldLink RX2 31 "ClauseBook$Clauses" "made" "[I") (List.mem_of_getElem? (i := 4) rfl)) (fun _ h9 => h9) rfl dX2_measure_88 ?_
      refine lv_aload_n hx hb dX2_measure_91 rfl (lv_at hl 4 rfl) ?_
      refine va_get (D := D) (ci := 1) (v := .ref c4) (C := RX2) (T := TX2) (N := 8) hx hb hts in_X2_measure_X2 hown hE.1 hP 0 rfl rfl 4 (by decide +kernel) (hts (.fieldLink RX2 25 "ClauseBook$Clauses" "d" "[I") (List.mem_of_getElem? (i := 6) rfl)) (fun _ h9 => h9) rfl dX2_measure_92 ?_
      refine lv_iload_n hx hb dX2_measure_95 rfl (lv_at hl 5 rfl) ?_
      refine va_iald hx hb hE.1 hP 4 0 rfl rfl (by rw [vp_in_iff]; first | omega | (subst_vars; omega)) dX2_measure_96 ?_
      refine lv_topi (fun z_39 ez_39 => ?_)
      refine va_iald hx hb hE.1 hP 6 0 rfl rfl (by rw [vp_in_iff]; first | omega | (subst_vars; omega)) dX2_measure_97 ?_
      refine lv_topi (fun z_40 ez_40 => ?_)
      refine lv_iadd hx hb dX2_measure_98 ?_
      refine lv_topi (fun z_41 ez_41 => ?_)
      refine lv_istore (lv' := [(4, .int z_41), (3, .int z_38), (5, .int z_30), (2, .int z_2), (0, .ref h0), (1, .int x1)]) hx hb dX2_measure_99 hl (by decide +kernel) rfl (fun ls hl => ?_)
      refine lv_iload hx hb dX2_measure_101 (lv_at hl 2 rfl) ?_
      refine lv_aload_n hx hb dX2_measure_103 rfl (lv_at hl 4 rfl) ?_
      refine va_get (D := D) (ci := 1) (v := .ref c7) (C := RX2) (T := TX2) (N := 8) hx hb hts in_X2_measure_X2 hown hE.1 hP 0 rfl rfl 7 (by decide +kernel) (hts (.fieldLink RX2 34 "ClauseBook$Clauses" "deep" "[I") (List.mem_of_getElem? (i := 5) rfl)) (fun _ h9 => h9) rfl dX2_measure_104 ?_
      refine lv_aload_n hx hb dX2_measure_107 rfl (lv_at hl 4 rfl) ?_
      refine va_get (D := D) (ci := 1) (v := .ref c4) (C := RX2) (T := TX2) (N := 8) hx hb hts in_X2_measure_X2 hown hE.1 hP 0 rfl rfl 4 (by decide +kernel) (hts (.fieldLink RX2 25 "ClauseBook$Clauses" "d" "[I") (List.mem_of_getElem? (i := 6) rfl)) (fun _ h9 => h9) rfl dX2_measure_108 ?_
      refine lv_iload_n hx hb dX2_measure_111 rfl (lv_at hl 5 rfl) ?_
      refine va_iald hx hb hE.1 hP 4 0 rfl rfl (by rw [vp_in_iff]; first | omega | (subst_vars; omega)) dX2_measure_112 ?_
      refine lv_topi (fun z_42 ez_42 => ?_)
      refine va_iald hx hb hE.1 hP 7 0 rfl rfl (by rw [vp_in_iff]; first | omega | (subst_vars; omega)) dX2_measure_113 ?_
      refine lv_topi (fun z_43 ez_43 => ?_)
      refine va_mmax hx hb (hml.trans hl.1.symm) hown (hts (.methodLink RX2 62 Lib.Math.max.name) (List.mem_of_getElem? (i := 7) rfl)) (hts (.static Lib.Math.max.name) (List.mem_of_getElem? (i := 8) rfl)) (hts (.initialized "java/lang/Math") (List.mem_of_getElem? (i := 9) rfl)) (hts (.code Lib.Math.max.name Lib.Math.max.code 2 (some .int)) (List.mem_of_getElem? (i := 10) rfl)) (Nat.le_of_ble_eq_true rfl) (Nat.le_of_ble_eq_true rfl) (Nat.le_of_ble_eq_true rfl) (Nat.le_of_ble_eq_true rfl) dX2_measure_114 ?_
      refine lv_topi (fun z_44 ez_44 => ?_)
      refine lv_istore (lv' := [(5, .int z_44), (4, .int z_41), (3, .int z_38), (2, .int z_2), (0, .ref h0), (1, .int x1)]) hx hb dX2_measure_117 hl (by decide +kernel) rfl (fun ls hl => ?_)
      refine lv_aload_n hx hb dX2_measure_119 rfl (lv_at hl 4 rfl) ?_
      refine lv_iload_n hx hb dX2_measure_120 rfl (lv_at hl 5 rfl) ?_
      refine va_cse (W.runV (As := [.int x1]) (rest := []) ⟨hx, hb, hml, hown, hts⟩ (c_X2_kindOf l D T ad sa av ta h0 [.int n0, .ref c1, .ref c2, .ref c3, .ref c4, .ref c5, .ref c6, .ref c7] c1 f1 x1 rfl (by omega) ((hok _ (in24 (x := x1) (by omega)).1).1)) (cwV 1 hts gX2_measure_X2_kindOf rfl rfl rfl hv_X2_kindOf ⟨Nat.le_of_ble_eq_true rfl, Nat.le_of_ble_eq_true rfl⟩) (pRk_V (q := (RX2, TX2, 8)) (ci := 1) (q0 := 0) hP hE hV hS rfl rfl [0, 1] rfl) rfl rfl hl.1 rfl (lv_room (Nat.le_of_ble_eq_true rfl)) dX2_measure_121 ⟨Nat.le_of_ble_eq_true rfl, Nat.le_of_ble_eq_true rfl⟩) (fun r_45 hr_45 => ?_)
      subst hr_45
      refine W.eq (g2 := F0 m 124 ls [.ref (ad ((f1 (x1.toNatClampNeg)).toNatClampNeg))]) rfl ?_
      refine va_gets (v := .ref (ad 8)) hx hb (hV.1.1.1 8 (by decide +kernel)).1 hS hown (hts (.fieldLink RX2 68 "ClauseBook$Kind" "UNTIL" "LClauseBook$Kind;") (List.mem_of_getElem? (i := 11) rfl)) (fun _ h9 => h9) dX2_measure_124 ?_
      refine lv_acmp_ne (rx := some (ad ((f1 (x1.toNatClampNeg)).toNatClampNeg))) (ry := some (ad 8)) (tgt := 141) hx hb dX2_measure_127 (by decide +kernel) (fun c_46 => ?_) (fun c_46 => ?_)
      · refine lv_aload_n hx hb dX2_measure_141 rfl (lv_at hl 4 rfl) ?_
        refine va_get (D := D) (ci := 1) (v := .ref c5) (C := RX2) (T := TX2) (N := 8) hx hb hts in_X2_measure_X2 hown hE.1 hP 0 rfl rfl 5 (by decide +kernel) (hts (.fieldLink RX2 28 "ClauseBook$Clauses" "end" "[I") (List.mem_of_getElem? (i := 2) rfl)) (fun _ h9 => h9) rfl dX2_measure_142 ?_
        refine lv_iload_n hx hb dX2_measure_145 rfl (lv_at hl 5 rfl) ?_
        refine lv_iload_n hx hb dX2_measure_146 rfl (lv_at hl 2 rfl) ?_
        refine va_iast hx hb hE.1 hP hD hS 5 0 rfl rfl (by rw [vp_in_iff]; first | omega | (subst_vars; omega)) dX2_measure_147 (fun H locs hP hD hS => ?_)
        obtain ⟨hP, hD⟩ := wPD [(h0, .inr (1, [.int n0, .ref c1, .ref c2, .ref c3, .ref c4, .ref c5, .ref c6, .ref c7])), (c1, .inl (T 0, 24, .inl f1)), (c2, .inl (T 0, 24, .inl f2)), (c3, .inl (T 0, 24, .inl f3)), (c4, .inl (T 0, 24, .inl f4)), (c5, .inl (T 0, 24, .inl (upd f5 (x1.toNatClampNeg) z_38))), (c6, .inl (T 0, 24, .inl f6)), (c7, .inl (T 0, 24, .inl f7))] hP hD rfl
        refine lv_aload_n hx hb dX2_measure_148 rfl (lv_at hl 4 rfl) ?_
        refine va_get (D := D) (ci := 1) (v := .ref c6) (C := RX2) (T := TX2) (N := 8) hx hb hts in_X2_measure_X2 hown hE.1 hP 0 rfl rfl 6 (by decide +kernel) (hts (.fieldLink RX2 31 "ClauseBook$Clauses" "made" "[I") (List.mem_of_getElem? (i := 4) rfl)) (fun _ h9 => h9) rfl dX2_measure_149 ?_
        refine lv_iload_n hx hb dX2_measure_152 rfl (lv_at hl 5 rfl) ?_
        refine lv_iload hx hb dX2_measure_153 (lv_at hl 1 rfl) ?_
        refine va_iast hx hb hE.1 hP hD hS 6 0 rfl rfl (by rw [vp_in_iff]; first | omega | (subst_vars; omega)) dX2_measure_155 (fun H locs hP hD hS => ?_)
        obtain ⟨hP, hD⟩ := wPD [(h0, .inr (1, [.int n0, .ref c1, .ref c2, .ref c3, .ref c4, .ref c5, .ref c6, .ref c7])), (c1, .inl (T 0, 24, .inl f1)), (c2, .inl (T 0, 24, .inl f2)), (c3, .inl (T 0, 24, .inl f3)), (c4, .inl (T 0, 24, .inl f4)), (c5, .inl (T 0, 24, .inl (upd f5 (x1.toNatClampNeg) z_38))), (c6, .inl (T 0, 24, .inl (upd f6 (x1.toNatClampNeg) z_41))), (c7, .inl (T 0, 24, .inl f7))] hP hD rfl
        refine lv_aload_n hx hb dX2_measure_156 rfl (lv_at hl 4 rfl) ?_
        refine va_get (D := D) (ci := 1) (v := .ref c7) (C := RX2) (T := TX2) (N := 8) hx hb hts in_X2_measure_X2 hown hE.1 hP 0 rfl rfl 7 (by decide +kernel) (hts (.fieldLink RX2 34 "ClauseBook$Clauses" "deep" "[I") (List.mem_of_getElem? (i := 5) rfl)) (fun _ h9 => h9) rfl dX2_measure_157 ?_
        refine lv_iload_n hx hb dX2_measure_160 rfl (lv_at hl 5 rfl) ?_
        refine lv_iload hx hb dX2_measure_161 (lv_at hl 0 rfl) ?_
        refine lv_iconst (v := 1) hx hb dX2_measure_163 (by decide +kernel) ?_
        refine lv_iadd hx hb dX2_measure_164 ?_
        refine va_iast hx hb hE.1 hP hD hS 7 0 rfl rfl (by rw [vp_in_iff]; first | omega | (subst_vars; omega)) dX2_measure_165 (fun H locs hP hD hS => ?_)
        obtain ⟨hP, hD⟩ := wPD [(h0, .inr (1, [.int n0, .ref c1, .ref c2, .ref c3, .ref c4, .ref c5, .ref c6, .ref c7])), (c1, .inl (T 0, 24, .inl f1)), (c2, .inl (T 0, 24, .inl f2)), (c3, .inl (T 0, 24, .inl f3)), (c4, .inl (T 0, 24, .inl f4)), (c5, .inl (T 0, 24, .inl (upd f5 (x1.toNatClampNeg) z_38))), (c6, .inl (T 0, 24, .inl (upd f6 (x1.toNatClampNeg) z_41))), (c7, .inl (T 0, 24, .inl (upd f7 (x1.toNatClampNeg) (z_44 + 1))))] hP hD rfl
        exact W.vret hx hb hr (fun t ht hW => ⟨⟨((upd f5 (x1.toNatClampNeg) z_38), (upd f6 (x1.toNatClampNeg) z_41), (upd f7 (x1.toNatClampNeg) (z_44 + 1))), rfl, ⟨(fun j hj => by
        show ((upd f5 (x1.toNatClampNeg) z_38) j).toInt ≤ 6
        by_cases hjx : j = x1.toNatClampNeg
        · simp only [upd, if_pos hjx]; first | omega | decide
        · simp only [upd, if_neg hjx]; exact (hok j hj).2.2.2), ⟨_, _, _, rfl, rfl, rfl, (mesE_no (fun e9 => c_46 (by rw [e9])) (endB_2 (by rw [← ez_2]; omega) ez_38 ez_25 ez_24 ez_37 ez_36)), (mesM_2 (by rw [← ez_2]; omega) ez_41 ez_28 ez_27 ez_26 ez_40 ez_39), (mesD_2 (by rw [← ez_2]; omega) ez_44 ez_30 ez_29 ez_43 ez_42)⟩⟩, by rw [ht]; exact hP.sub [0, 1, 2, 3, 4, 5, 6, 7] rfl, hD.sub [0, 1, 2, 3, 4, 5, 6, 7] (by decide +kernel) rfl⟩, hS.F ht⟩) hS.2.2 dX2_measure_166
      · refine lv_iload_n hx hb dX2_measure_130 rfl (lv_at hl 2 rfl) ?_
        refine lv_aload_n hx hb dX2_measure_131 rfl (lv_at hl 4 rfl) ?_
        refine va_get (D := D) (ci := 1) (v := .ref c2) (C := RX2) (T := TX2) (N := 8) hx hb hts in_X2_measure_X2 hown hE.1 hP 0 rfl rfl 2 (by decide +kernel) (hts (.fieldLink RX2 19 "ClauseBook$Clauses" "n" "[I") (List.mem_of_getElem? (i := 12) rfl)) (fun _ h9 => h9) rfl dX2_measure_132 ?_
        refine lv_iload_n hx hb dX2_measure_135 rfl (lv_at hl 5 rfl) ?_
        refine va_iald hx hb hE.1 hP 2 0 rfl rfl (by rw [vp_in_iff]; first | omega | (subst_vars; omega)) dX2_measure_136 ?_
        refine lv_topi (fun z_47 ez_47 => ?_)
        refine va_mmin hx hb (hml.trans hl.1.symm) hown (hts (.methodLink RX2 72 Lib.Math.min.name) (List.mem_of_getElem? (i := 13) rfl)) (hts (.static Lib.Math.min.name) (List.mem_of_getElem? (i := 14) rfl)) (hts (.initialized "java/lang/Math") (List.mem_of_getElem? (i := 9) rfl)) (hts (.code Lib.Math.min.name Lib.Math.min.code 2 (some .int)) (List.mem_of_getElem? (i := 15) rfl)) (Nat.le_of_ble_eq_true rfl) (Nat.le_of_ble_eq_true rfl) (Nat.le_of_ble_eq_true rfl) (Nat.le_of_ble_eq_true rfl) dX2_measure_137 ?_
        refine lv_topi (fun z_48 ez_48 => ?_)
        have h6z_48 : z_48.toInt ≤ 6 := by
          rw [ez_48]
          have h66 := ti_6
          split
          · rename_i h
            rw [fa_lt] at h
            omega
          · omega
        refine lv_istore_n (lv' := [(3, .int z_48), (5, .int z_44), (4, .int z_41), (2, .int z_2), (0, .ref h0), (1, .int x1)]) hx hb dX2_measure_140 rfl hl (by decide +kernel) rfl (fun ls hl => ?_)
        refine lv_aload_n hx hb dX2_measure_141 rfl (lv_at hl 4 rfl) ?_
        refine va_get (D := D) (ci := 1) (v := .ref c5) (C := RX2) (T := TX2) (N := 8) hx hb hts in_X2_measure_X2 hown hE.1 hP 0 rfl rfl 5 (by decide +kernel) (hts (.fieldLink RX2 28 "ClauseBook$Clauses" "end" "[I") (List.mem_of_getElem? (i := 2) rfl)) (fun _ h9 => h9) rfl dX2_measure_142 ?_
        refine lv_iload_n hx hb dX2_measure_145 rfl (lv_at hl 5 rfl) ?_
        refine lv_iload_n hx hb dX2_measure_146 rfl (lv_at hl 0 rfl) ?_
        refine va_iast hx hb hE.1 hP hD hS 5 0 rfl rfl (by rw [vp_in_iff]; first | omega | (subst_vars; omega)) dX2_measure_147 (fun H locs hP hD hS => ?_)
        obtain ⟨hP, hD⟩ := wPD [(h0, .inr (1, [.int n0, .ref c1, .ref c2, .ref c3, .ref c4, .ref c5, .ref c6, .ref c7])), (c1, .inl (T 0, 24, .inl f1)), (c2, .inl (T 0, 24, .inl f2)), (c3, .inl (T 0, 24, .inl f3)), (c4, .inl (T 0, 24, .inl f4)), (c5, .inl (T 0, 24, .inl (upd f5 (x1.toNatClampNeg) z_48))), (c6, .inl (T 0, 24, .inl f6)), (c7, .inl (T 0, 24, .inl f7))] hP hD rfl
        refine lv_aload_n hx hb dX2_measure_148 rfl (lv_at hl 4 rfl) ?_
        refine va_get (D := D) (ci := 1) (v := .ref c6) (C := RX2) (T := TX2) (N := 8) hx hb hts in_X2_measure_X2 hown hE.1 hP 0 rfl rfl 6 (by decide +kernel) (hts (.fieldLink RX2 31 "ClauseBook$Clauses" "made" "[I") (List.mem_of_getElem? (i := 4) rfl)) (fun _ h9 => h9) rfl dX2_measure_149 ?_
        refine lv_iload_n hx hb dX2_measure_152 rfl (lv_at hl 5 rfl) ?_
        refine lv_iload hx hb dX2_measure_153 (lv_at hl 2 rfl) ?_
        refine va_iast hx hb hE.1 hP hD hS 6 0 rfl rfl (by rw [vp_in_iff]; first | omega | (subst_vars; omega)) dX2_measure_155 (fun H locs hP hD hS => ?_)
        obtain ⟨hP, hD⟩ := wPD [(h0, .inr (1, [.int n0, .ref c1, .ref c2, .ref c3, .ref c4, .ref c5, .ref c6, .ref c7])), (c1, .inl (T 0, 24, .inl f1)), (c2, .inl (T 0, 24, .inl f2)), (c3, .inl (T 0, 24, .inl f3)), (c4, .inl (T 0, 24, .inl f4)), (c5, .inl (T 0, 24, .inl (upd f5 (x1.toNatClampNeg) z_48))), (c6, .inl (T 0, 24, .inl (upd f6 (x1.toNatClampNeg) z_41))), (c7, .inl (T 0, 24, .inl f7))] hP hD rfl
        refine lv_aload_n hx hb dX2_measure_156 rfl (lv_at hl 4 rfl) ?_
        refine va_get (D := D) (ci := 1) (v := .ref c7) (C := RX2) (T := TX2) (N := 8) hx hb hts in_X2_measure_X2 hown hE.1 hP 0 rfl rfl 7 (by decide +kernel) (hts (.fieldLink RX2 34 "ClauseBook$Clauses" "deep" "[I") (List.mem_of_getElem? (i := 5) rfl)) (fun _ h9 => h9) rfl dX2_measure_157 ?_
        refine lv_iload_n hx hb dX2_measure_160 rfl (lv_at hl 5 rfl) ?_
        refine lv_iload hx hb dX2_measure_161 (lv_at hl 1 rfl) ?_
        refine lv_iconst (v := 1) hx hb dX2_measure_163 (by decide +kernel) ?_
        refine lv_iadd hx hb dX2_measure_164 ?_
        refine va_iast hx hb hE.1 hP hD hS 7 0 rfl rfl (by rw [vp_in_iff]; first | omega | (subst_vars; omega)) dX2_measure_165 (fun H locs hP hD hS => ?_)
        obtain ⟨hP, hD⟩ := wPD [(h0, .inr (1, [.int n0, .ref c1, .ref c2, .ref c3, .ref c4, .ref c5, .ref c6, .ref c7])), (c1, .inl (T 0, 24, .inl f1)), (c2, .inl (T 0, 24, .inl f2)), (c3, .inl (T 0, 24, .inl f3)), (c4, .inl (T 0, 24, .inl f4)), (c5, .inl (T 0, 24, .inl (upd f5 (x1.toNatClampNeg) z_48))), (c6, .inl (T 0, 24, .inl (upd f6 (x1.toNatClampNeg) z_41))), (c7, .inl (T 0, 24, .inl (upd f7 (x1.toNatClampNeg) (z_44 + 1))))] hP hD rfl
        exact W.vret hx hb hr (fun t ht hW => ⟨⟨((upd f5 (x1.toNatClampNeg) z_48), (upd f6 (x1.toNatClampNeg) z_41), (upd f7 (x1.toNatClampNeg) (z_44 + 1))), rfl, ⟨(fun j hj => by
        show ((upd f5 (x1.toNatClampNeg) z_48) j).toInt ≤ 6
        by_cases hjx : j = x1.toNatClampNeg
        · simp only [upd, if_pos hjx]; first | omega | decide
        · simp only [upd, if_neg hjx]; exact (hok j hj).2.2.2), ⟨_, _, _, rfl, rfl, rfl, (mesE_yes (hV.1.1.2 _ 8 (in13c ((hok _ (in24 (x := x1) (by omega)).1).1)) (by decide +kernel) (Option.some.inj c_46)) (endB_2 (by rw [← ez_2]; omega) ez_38 ez_25 ez_24 ez_37 ez_36) ez_48 ez_47), (mesM_2 (by rw [← ez_2]; omega) ez_41 ez_28 ez_27 ez_26 ez_40 ez_39), (mesD_2 (by rw [← ez_2]; omega) ez_44 ez_30 ez_29 ez_43 ez_42)⟩⟩, by rw [ht]; exact hP.sub [0, 1, 2, 3, 4, 5, 6, 7] rfl, hD.sub [0, 1, 2, 3, 4, 5, 6, 7] (by decide +kernel) rfl⟩, hS.F ht⟩) hS.2.2 dX2_measure_166
end
section
/-- as okC, but for what place x names -/
def okW (x : Nat) (fk fc fd fe : Nat → Int32) : Prop := ∀ j : Nat, j < 24 → (0 ≤ (fk j).toInt ∧ (fk j).toInt ≤ 12) ∧ (j ≠ x → 1 ≤ (nmT (fk j).toNatClampNeg).toInt → 0 ≤ (fc j).toInt ∧ (fc j).toInt < j) ∧ (j ≠ x → (nmT (fk j).toNatClampNeg).toInt = 2 → 0 ≤ (fd j).toInt ∧ (fd j).toInt < j) ∧ (fe j).toInt ≤ 6
theorem okC.ends {fk fc fd fe fe' : Nat → Int32} (h : okC fk fc fd fe) (h6 : ∀ j : Nat, j < 24 → (fe' j).toInt ≤ 6) : okC fk fc fd fe' := fun j hj => ⟨(h j hj).1, (h j hj).2.1, (h j hj).2.2.1, h6 j hj⟩
theorem okC.W {x : Nat} {fk fc fd fe : Nat → Int32} (h : okC fk fc fd fe) : okW x fk fc fd fe := fun j hj => ⟨(h j hj).1, fun _ => (h j hj).2.1, fun _ => (h j hj).2.2.1, (h j hj).2.2.2⟩
theorem okW.C {x : Int32} {fk fc fd fe : Nat → Int32} {v w : Int32} (hx : 0 ≤ x.toInt ∧ x.toInt < 24) (h : okW x.toNatClampNeg fk fc fd fe) (hv : 1 ≤ (nmT (fk x.toNatClampNeg).toNatClampNeg).toInt → 0 ≤ v.toInt ∧ v.toInt < x.toInt) (hw : (nmT (fk x.toNatClampNeg).toNatClampNeg).toInt = 2 → 0 ≤ w.toInt ∧ w.toInt < x.toInt) : okC fk (upd fc x.toNatClampNeg v) (upd fd x.toNatClampNeg w) fe := by
  intro j hj
  have h2 := (in24 hx).2
  by_cases hjx : j = x.toNatClampNeg
  · subst hjx
    have h9 := h _ hj
    refine ⟨h9.1, fun a => ?_, fun a => ?_, h9.2.2.2⟩
    · simp only [upd, if_pos]; have := hv a; omega
    · simp only [upd, if_pos]; have := hw a; omega
  · have h9 := h j hj
    simp only [upd, if_neg hjx]
    exact ⟨h9.1, h9.2.1 hjx, h9.2.2.1 hjx, h9.2.2.2⟩
theorem okW.N {x : Nat} {fk fc fd fe : Nat → Int32} (h : okW x fk fc fd fe) (hx : x ≤ 24) : okN fk fc fd x := fun j hj => ⟨(h j (by omega)).2.1 (by omega), (h j (by omega)).2.2.1 (by omega)⟩
theorem dX2_rename_0 : decode cX2_rename 0 = .ok (.aload_n 0, 1) := by decide +kernel
theorem dX2_rename_1 : decode cX2_rename 1 = .ok (.iload_n 1, 1) := by decide +kernel
theorem dX2_rename_10 : decode cX2_rename 10 = .ok (.aload_n 0, 1) := by decide +kernel
theorem dX2_rename_11 : decode cX2_rename 11 = .ok (.getfield 22, 3) := by decide +kernel
theorem dX2_rename_14 : decode cX2_rename 14 = .ok (.iload_n 1, 1) := by decide +kernel
theorem dX2_rename_15 : decode cX2_rename 15 = .ok (.iload 4, 2) := by decide +kernel
theorem dX2_rename_17 : decode cX2_rename 17 = .ok (.iconst 1, 1) := by decide +kernel
theorem dX2_rename_18 : decode cX2_rename 18 = .ok (.if_icmp .lt 7, 3) := by decide +kernel
theorem dX2_rename_2 : decode cX2_rename 2 = .ok (.invokevirtual 51, 3) := by decide +kernel
theorem dX2_rename_21 : decode cX2_rename 21 = .ok (.iload_n 2, 1) := by decide +kernel
theorem dX2_rename_22 : decode cX2_rename 22 = .ok (.goto 4, 3) := by decide +kernel
theorem dX2_rename_25 : decode cX2_rename 25 = .ok (.iconst (-1), 1) := by decide +kernel
theorem dX2_rename_26 : decode cX2_rename 26 = .ok (.iastore, 1) := by decide +kernel
theorem dX2_rename_27 : decode cX2_rename 27 = .ok (.aload_n 0, 1) := by decide +kernel
theorem dX2_rename_28 : decode cX2_rename 28 = .ok (.getfield 25, 3) := by decide +kernel
theorem dX2_rename_31 : decode cX2_rename 31 = .ok (.iload_n 1, 1) := by decide +kernel
theorem dX2_rename_32 : decode cX2_rename 32 = .ok (.iload 4, 2) := by decide +kernel
theorem dX2_rename_34 : decode cX2_rename 34 = .ok (.iconst 2, 1) := by decide +kernel
theorem dX2_rename_35 : decode cX2_rename 35 = .ok (.if_icmp .ne 7, 3) := by decide +kernel
theorem dX2_rename_38 : decode cX2_rename 38 = .ok (.iload_n 3, 1) := by decide +kernel
theorem dX2_rename_39 : decode cX2_rename 39 = .ok (.goto 4, 3) := by decide +kernel
theorem dX2_rename_42 : decode cX2_rename 42 = .ok (.iconst (-1), 1) := by decide +kernel
theorem dX2_rename_43 : decode cX2_rename 43 = .ok (.iastore, 1) := by decide +kernel
theorem dX2_rename_44 : decode cX2_rename 44 = .ok (.iload_n 1, 1) := by decide +kernel
theorem dX2_rename_45 : decode cX2_rename 45 = .ok (.istore 5, 2) := by decide +kernel
theorem dX2_rename_47 : decode cX2_rename 47 = .ok (.iload 5, 2) := by decide +kernel
theorem dX2_rename_49 : decode cX2_rename 49 = .ok (.aload_n 0, 1) := by decide +kernel
theorem dX2_rename_5 : decode cX2_rename 5 = .ok (.getfield 55, 3) := by decide +kernel
theorem dX2_rename_50 : decode cX2_rename 50 = .ok (.getfield 9, 3) := by decide +kernel
theorem dX2_rename_53 : decode cX2_rename 53 = .ok (.if_icmp .ge 15, 3) := by decide +kernel
theorem dX2_rename_56 : decode cX2_rename 56 = .ok (.aload_n 0, 1) := by decide +kernel
theorem dX2_rename_57 : decode cX2_rename 57 = .ok (.iload 5, 2) := by decide +kernel
theorem dX2_rename_59 : decode cX2_rename 59 = .ok (.invokevirtual 58, 3) := by decide +kernel
theorem dX2_rename_62 : decode cX2_rename 62 = .ok (.iinc 5 1, 3) := by decide +kernel
theorem dX2_rename_65 : decode cX2_rename 65 = .ok (.goto (-18), 3) := by decide +kernel
theorem dX2_rename_68 : decode cX2_rename 68 = .ok (.return_, 1) := by decide +kernel
theorem dX2_rename_8 : decode cX2_rename 8 = .ok (.istore 4, 2) := by decide +kernel
set_option maxRecDepth 20000 in
theorem ggX2_rename_X2_kindOf : GoodIn wsX2_rename wsX2_kindOf := goodIn_r _ [9, 10, 27, 28, 29, 30, 31, 32, 33, 34] rfl (by decide +kernel)
set_option maxRecDepth 20000 in
theorem ggX2_rename_X2_measure : GoodIn wsX2_rename wsX2_measure := goodIn_r _ [14, 1, 15, 2, 16, 17, 3, 18, 19, 20, 21, 22, 23, 24, 25, 26, 5, 6, 7, 8, 9, 10, 27, 28, 29, 30, 31, 32, 33, 34] rfl (by decide +kernel)
set_option maxRecDepth 20000 in
theorem gX2_rename_X2_kindOf : GoodIn wsX2_rename (wsV RX2 51 RX2 yX2_kindOf wsX2_kindOf) := goodIn_app (goodIn_r _ [5, 6, 7, 8] rfl (by decide +kernel)) ggX2_rename_X2_kindOf
set_option maxRecDepth 20000 in
theorem gX2_rename_X2_measure : GoodIn wsX2_rename (wsV RX2 58 RX2 yX2_measure wsX2_measure) := goodIn_app (goodIn_r _ [11, 12, 13, 8] rfl (by decide +kernel)) ggX2_rename_X2_measure
theorem hv_X2_measure : yX2_measure.cls = RX2 ∧ yX2_measure.cls ≠ "java/lang/invoke/MethodHandle" ∧ yX2_measure.cls ≠ "java/lang/invoke/VarHandle" ∧ (parseMethodDescriptor yX2_measure.desc).map (fun d => d.parameters.length) = some 1 := by decide +kernel
set_option maxRecDepth 20000 in
theorem in_X2_rename_X2 : ∀ w ∈ wsX20, w ∈ wsX2_rename := sub_r [27, 28, 29, 30, 31, 32, 33, 34] rfl
set_option maxHeartbeats 4000000 in
set_option maxRecDepth 100000 in
theorem c_X2_rename (l : Launch) (D : va_G) (T : Nat → ClassId) (ad sa av : Nat → Nat) (ta : Nat) (sz : Nat) (h0 : Nat) (n0 : Int32) (c1 : Nat) (c2 : Nat) (c3 : Nat) (c4 : Nat) (c5 : Nat) (c6 : Nat) (c7 : Nat) (f1 : Nat → Int32) (f2 : Nat → Int32) (f3 : Nat → Int32) (f4 : Nat → Int32) (f5 : Nat → Int32) (f6 : Nat → Int32) (f7 : Nat → Int32) (x1 : Int32) (x2 : Int32) (x3 : Int32) (hx1 : 0 ≤ x1.toInt ∧ x1.toInt < 24) (hn24 : n0.toInt ≤ 24) (hok : okW x1.toNatClampNeg f1 f3 f4 f5) (hf : 1 ≤ (nmT ((f1 (x1.toNatClampNeg)).toNatClampNeg)).toInt → 0 ≤ x2.toInt ∧ x2.toInt < x1.toInt) (hs : (nmT ((f1 (x1.toNatClampNeg)).toNatClampNeg)).toInt = 2 → 0 ≤ x3.toInt ∧ x3.toInt < x1.toInt) (hme : ∀ j : Nat, (j : Int) < x1.toInt → mesP f1 f2 f3 f4 f5 f6 f7 j) : Met l yX2_rename wsX2_rename ({ frames := 2, cells := 0, slots := 0, locals := 65 }) (pWk [.ref h0, .int x1, .int x2, .int x3] D T [(h0, .inr (1, [.int n0, .ref c1, .ref c2, .ref c3, .ref c4, .ref c5, .ref c6, .ref c7])), (c1, .inl (T 0, 24, .inl f1)), (c2, .inl (T 0, 24, .inl f2)), (c3, .inl (T 0, 24, .inl f3)), (c4, .inl (T 0, 24, .inl f4)), (c5, .inl (T 0, 24, .inl f5)), (c6, .inl (T 0, 24, .inl f6)), (c7, .inl (T 0, 24, .inl f7))] sz ad sa av ta) (va_Qv (fun (u : Nat → Nat → Int32) => okC f1 (u 3) (u 4) (u 5) ∧ (u 3 = upd f3 (x1.toNatClampNeg) (if 1 ≤ (nmT ((f1 (x1.toNatClampNeg)).toNatClampNeg)).toInt then x2 else -1)) ∧ (u 4 = upd f4 (x1.toNatClampNeg) (if (nmT ((f1 (x1.toNatClampNeg)).toNatClampNeg)).toInt = 2 then x3 else -1)) ∧ ∀ j : Nat, (j : Int) < n0.toInt → mesP f1 f2 (u 3) (u 4) (u 5) (u 6) (u 7) j) (bW D (va_A [(h0, .inr (1, [.int n0, .ref c1, .ref c2, .ref c3, .ref c4, .ref c5, .ref c6, .ref c7])), (c1, .inl (T 0, 24, .inl f1)), (c2, .inl (T 0, 24, .inl f2)), (c3, .inl (T 0, 24, .inl f3)), (c4, .inl (T 0, 24, .inl f4)), (c5, .inl (T 0, 24, .inl f5)), (c6, .inl (T 0, 24, .inl f6)), (c7, .inl (T 0, 24, .inl f7))] sz) (fun (u : Nat → Nat → Int32) => [(h0, .inr (1, [.int n0, .ref c1, .ref c2, .ref c3, .ref c4, .ref c5, .ref c6, .ref c7])), (c1, .inl (T 0, 24, .inl f1)), (c2, .inl (T 0, 24, .inl f2)), (c3, .inl (T 0, 24, .inl (u 3))), (c4, .inl (T 0, 24, .inl (u 4))), (c5, .inl (T 0, 24, .inl (u 5))), (c6, .inl (T 0, 24, .inl (u 6))), (c7, .inl (T 0, 24, .inl (u 7)))])) (va_A [(h0, .inr (1, [.int n0, .ref c1, .ref c2, .ref c3, .ref c4, .ref c5, .ref c6, .ref c7])), (c1, .inl (T 0, 24, .inl f1)), (c2, .inl (T 0, 24, .inl f2)), (c3, .inl (T 0, 24, .inl f3)), (c4, .inl (T 0, 24, .inl f4)), (c5, .inl (T 0, 24, .inl f5)), (c6, .inl (T 0, 24, .inl f6)), (c7, .inl (T 0, 24, .inl f7))] sz)) 0 0 (va_A [(h0, .inr (1, [.int n0, .ref c1, .ref c2, .ref c3, .ref c4, .ref c5, .ref c6, .ref c7])), (c1, .inl (T 0, 24, .inl f1)), (c2, .inl (T 0, 24, .inl f2)), (c3, .inl (T 0, 24, .inl f3)), (c4, .inl (T 0, 24, .inl f4)), (c5, .inl (T 0, 24, .inl f5)), (c6, .inl (T 0, 24, .inl f6)), (c7, .inl (T 0, 24, .inl f7))] sz) := by
  refine Met.ofW (cc := cX2_rename) (maxL := 6) (ret := none) (by decide +kernel) rfl ?_
  intro p e s m args below meth c s₁ B hml hv
  obtain ⟨rfl, hsz, hP, hE, hD0, hV⟩ := hv
  have hx := B.exec
  have hb := B.bytes
  have hr := B.returns
  have hts := atoms_spec (ws := wsX2_rename) B.pre
  have hown : s.vm.findClass RX2 = some m.cls := findClass_of_methodNamed B.named
  have hlocks := B.notSynchronized
  subst hsz
  have hD := hD0.self (sz := s.heap.size)
  generalize hAe : va_A [(h0, .inr (1, [.int n0, .ref c1, .ref c2, .ref c3, .ref c4, .ref c5, .ref c6, .ref c7])), (c1, .inl (T 0, 24, .inl f1)), (c2, .inl (T 0, 24, .inl f2)), (c3, .inl (T 0, 24, .inl f3)), (c4, .inl (T 0, 24, .inl f4)), (c5, .inl (T 0, 24, .inl f5)), (c6, .inl (T 0, 24, .inl f6)), (c7, .inl (T 0, 24, .inl f7))] s.heap.size = A at hD hV ⊢
  have hA : ∀ q : Nat, s.heap.size ≤ q → A q := fun q h => by rw [← hAe]; exact Or.inr h
  have hS : va_S A s.heap s.heap [] := va_S.rf
  have hP : va_P D vwCl [(h0, .inr (1, [.int n0, .ref c1, .ref c2, .ref c3, .ref c4, .ref c5, .ref c6, .ref c7])), (c1, .inl (T 0, 24, .inl f1)), (c2, .inl (T 0, 24, .inl f2)), (c3, .inl (T 0, 24, .inl f3)), (c4, .inl (T 0, 24, .inl f4)), (c5, .inl (T 0, 24, .inl f5)), (c6, .inl (T 0, 24, .inl f6)), (c7, .inl (T 0, 24, .inl f7))] s.heap := hP
  have hl := lv_entry ([.ref h0, .int x1, .int x2, .int x3]) (n := 6) (Nat.le_of_ble_eq_true rfl)
  rw [lg_entry_eq]
  generalize (lg_sl ([.ref h0, .int x1, .int x2, .int x3]) ++ List.replicate (6 - (lg_sl ([.ref h0, .int x1, .int x2, .int x3])).length) Slot.unset).toArray = ls at hl ⊢
  have hl : lv_has ls 6 [(0, .ref h0), (1, .int x1), (2, .int x2), (3, .int x3)] := hl
  clear hD0
  refine lv_aload_n hx hb dX2_rename_0 rfl (lv_at hl 0 rfl) ?_
  refine lv_iload_n hx hb dX2_rename_1 rfl (lv_at hl 1 rfl) ?_
  refine va_cse (W.runV (As := [.int x1]) (rest := []) ⟨hx, hb, hml, hown, hts⟩ (c_X2_kindOf l D T ad sa av ta h0 [.int n0, .ref c1, .ref c2, .ref c3, .ref c4, .ref c5, .ref c6, .ref c7] c1 f1 x1 rfl (by omega) ((hok _ (in24 (x := x1) (by omega)).1).1)) (cwV 1 hts gX2_rename_X2_kindOf rfl rfl rfl hv_X2_kindOf ⟨Nat.le_of_ble_eq_true rfl, Nat.le_of_ble_eq_true rfl⟩) (pRk_V (q := (RX2, TX2, 8)) (ci := 1) (q0 := 0) hP hE hV hS rfl rfl [0, 1] rfl) rfl rfl hl.1 rfl (lv_room (Nat.le_of_ble_eq_true rfl)) dX2_rename_2 ⟨Nat.le_of_ble_eq_true rfl, Nat.le_of_ble_eq_true rfl⟩) (fun r_1 hr_1 => ?_)
  subst hr_1
  refine W.eq (g2 := F0 m 5 ls [.ref (ad ((f1 (x1.toNatClampNeg)).toNatClampNeg))]) rfl ?_
  refine va_getE (i := ((f1 (x1.toNatClampNeg)).toNatClampNeg)) hx hb hV.1.1 (in13c ((hok _ (in24 (x := x1) (by omega)).1).1)) hS hown (q := kdQ "names" [0, 0, 1, 1, 1, 2, 2, 2, 1, 2, 1, 1, 2]) (List.mem_of_getElem? (i := 0) rfl) (hts (.fieldLink RX2 55 "ClauseBook$Kind" "names" "I") (List.mem_of_getElem? (i := 1) rfl)) (fun _ h9 => h9) dX2_rename_5 ?_
  refine W.eq (g2 := F0 m 8 ls [.int (nmT ((f1 (x1.toNatClampNeg)).toNatClampNeg))]) rfl ?_
  refine lv_topi (fun z_2 ez_2 => ?_)
  have hnm : 0 ≤ z_2.toInt ∧ z_2.toInt ≤ 2 := by rw [ez_2]; exact nmT_in _
  refine lv_istore (lv' := [(4, .int z_2), (0, .ref h0), (1, .int x1), (2, .int x2), (3, .int x3)]) hx hb dX2_rename_8 hl (by decide +kernel) rfl (fun ls hl => ?_)
  refine lv_aload_n hx hb dX2_rename_10 rfl (lv_at hl 1 rfl) ?_
  refine va_get (D := D) (ci := 1) (v := .ref c3) (C := RX2) (T := TX2) (N := 8) hx hb hts in_X2_rename_X2 hown hE.1 hP 0 rfl rfl 3 (by decide +kernel) (hts (.fieldLink RX2 22 "ClauseBook$Clauses" "c" "[I") (List.mem_of_getElem? (i := 2) rfl)) (fun _ h9 => h9) rfl dX2_rename_11 ?_
  refine lv_iload_n hx hb dX2_rename_14 rfl (lv_at hl 2 rfl) ?_
  refine lv_iload hx hb dX2_rename_15 (lv_at hl 0 rfl) ?_
  refine lv_iconst (v := 1) hx hb dX2_rename_17 (by decide +kernel) ?_
  refine lv_icmp_lt (tgt := 25) hx hb dX2_rename_18 (by decide +kernel) (fun c_3 => ?_) (fun c_3 => ?_)
  · rw [fa_lt] at c_3
    try rw [ti_1] at c_3
    refine lv_iconst (v := (-1)) hx hb dX2_rename_25 (by decide +kernel) ?_
    refine va_iast hx hb hE.1 hP hD hS 3 0 rfl rfl (by rw [vp_in_iff]; first | omega | (subst_vars; omega)) dX2_rename_26 (fun H locs hP hD hS => ?_)
    obtain ⟨hP, hD⟩ := wPD [(h0, .inr (1, [.int n0, .ref c1, .ref c2, .ref c3, .ref c4, .ref c5, .ref c6, .ref c7])), (c1, .inl (T 0, 24, .inl f1)), (c2, .inl (T 0, 24, .inl f2)), (c3, .inl (T 0, 24, .inl (upd f3 (x1.toNatClampNeg) (-1)))), (c4, .inl (T 0, 24, .inl f4)), (c5, .inl (T 0, 24, .inl f5)), (c6, .inl (T 0, 24, .inl f6)), (c7, .inl (T 0, 24, .inl f7))] hP hD rfl
    refine lv_aload_n hx hb dX2_rename_27 rfl (lv_at hl 1 rfl) ?_
    refine va_get (D := D) (ci := 1) (v := .ref c4) (C := RX2) (T := TX2) (N := 8) hx hb hts in_X2_rename_X2 hown hE.1 hP 0 rfl rfl 4 (by decide +kernel) (hts (.fieldLink RX2 25 "ClauseBook$Clauses" "d" "[I") (List.mem_of_getElem? (i := 3) rfl)) (fun _ h9 => h9) rfl dX2_rename_28 ?_
    refine lv_iload_n hx hb dX2_rename_31 rfl (lv_at hl 2 rfl) ?_
    refine lv_iload hx hb dX2_rename_32 (lv_at hl 0 rfl) ?_
    refine lv_iconst (v := 2) hx hb dX2_rename_34 (by decide +kernel) ?_
    refine lv_icmp_ne (tgt := 42) hx hb dX2_rename_35 (by decide +kernel) (fun c_4 => ?_) (fun c_4 => ?_)
    · rw [fa_eq] at c_4
      try rw [ti_2] at c_4
      refine lv_iconst (v := (-1)) hx hb dX2_rename_42 (by decide +kernel) ?_
      refine va_iast hx hb hE.1 hP hD hS 4 0 rfl rfl (by rw [vp_in_iff]; first | omega | (subst_vars; omega)) dX2_rename_43 (fun H locs hP hD hS => ?_)
      obtain ⟨hP, hD⟩ := wPD [(h0, .inr (1, [.int n0, .ref c1, .ref c2, .ref c3, .ref c4, .ref c5, .ref c6, .ref c7])), (c1, .inl (T 0, 24, .inl f1)), (c2, .inl (T 0, 24, .inl f2)), (c3, .inl (T 0, 24, .inl (upd f3 (x1.toNatClampNeg) (-1)))), (c4, .inl (T 0, 24, .inl (upd f4 (x1.toNatClampNeg) (-1)))), (c5, .inl (T 0, 24, .inl f5)), (c6, .inl (T 0, 24, .inl f6)), (c7, .inl (T 0, 24, .inl f7))] hP hD rfl
      have hme := mes_cd (c := (-1)) (d := (-1)) (okW.N hok (by have h9 := tn hx1.1; omega)) hx1.1 hme
      have hok : okC f1 (upd f3 (x1.toNatClampNeg) (-1)) (upd f4 (x1.toNatClampNeg) (-1)) f5 := okW.C (by omega) hok (fun a => by rw [← ez_2] at a; first | exact hf (by rw [← ez_2]; omega) | (exfalso; omega)) (fun a => by rw [← ez_2] at a; first | exact hs (by rw [← ez_2]; omega) | (exfalso; omega))
      refine lv_iload_n hx hb dX2_rename_44 rfl (lv_at hl 2 rfl) ?_
      refine lv_istore (lv' := [(5, .int x1), (4, .int z_2), (0, .ref h0), (1, .int x1), (2, .int x2), (3, .int x3)]) hx hb dX2_rename_45 hl (by decide +kernel) rfl (fun ls hl => ?_)
      refine loopW (σ := (Int32) × (Nat → Int32) × (Nat → Int32) × (Nat → Int32)) (fun x9 ls H locs => lv_has ls 6 [(5, .int x9.1), (0, .ref h0), (1, .int x1), (2, .int x2), (3, .int x3), (4, .int z_2)] ∧ va_P D vwCl [(h0, .inr (1, [.int n0, .ref c1, .ref c2, .ref c3, .ref c4, .ref c5, .ref c6, .ref c7])), (c1, .inl (T 0, 24, .inl f1)), (c2, .inl (T 0, 24, .inl f2)), (c3, .inl (T 0, 24, .inl (upd f3 (x1.toNatClampNeg) (-1)))), (c4, .inl (T 0, 24, .inl (upd f4 (x1.toNatClampNeg) (-1)))), (c5, .inl (T 0, 24, .inl x9.2.1)), (c6, .inl (T 0, 24, .inl x9.2.2.1)), (c7, .inl (T 0, 24, .inl x9.2.2.2))] H ∧ va_D A [(h0, .inr (1, [.int n0, .ref c1, .ref c2, .ref c3, .ref c4, .ref c5, .ref c6, .ref c7])), (c1, .inl (T 0, 24, .inl f1)), (c2, .inl (T 0, 24, .inl f2)), (c3, .inl (T 0, 24, .inl (upd f3 (x1.toNatClampNeg) (-1)))), (c4, .inl (T 0, 24, .inl (upd f4 (x1.toNatClampNeg) (-1)))), (c5, .inl (T 0, 24, .inl x9.2.1)), (c6, .inl (T 0, 24, .inl x9.2.2.1)), (c7, .inl (T 0, 24, .inl x9.2.2.2))] ∧ va_S A s.heap H locs ∧ (0 ≤ x9.1.toInt ∧ okC f1 (upd f3 (x1.toNatClampNeg) (-1)) (upd f4 (x1.toNatClampNeg) (-1)) x9.2.1 ∧ ∀ j : Nat, (j : Int) < x9.1.toInt → mesP f1 f2 (upd f3 (x1.toNatClampNeg) (-1)) (upd f4 (x1.toNatClampNeg) (-1)) x9.2.1 x9.2.2.1 x9.2.2.2 j)) (fun x9 => (24 - x9.1.toInt).toNat) (fun x9 ls H locs hI ih => ?_) (x1, f5, f6, f7) ls ⟨lv_sub hl [0, 2, 3, 4, 5, 1] rfl, hP.sub [0, 1, 2, 3, 4, 5, 6, 7] rfl, hD.sub [0, 1, 2, 3, 4, 5, 6, 7] (by decide +kernel) rfl, hS, ⟨(by (try dsimp only); omega), hok, hme⟩⟩
      obtain ⟨ii, g5, g6, g7⟩ := x9
      obtain ⟨hl, hP, hD, hS, hinv⟩ := hI
      have hl : lv_has ls 6 [(5, .int ii), (0, .ref h0), (1, .int x1), (2, .int x2), (3, .int x3), (4, .int z_2)] := hl
      have hP : va_P D vwCl [(h0, .inr (1, [.int n0, .ref c1, .ref c2, .ref c3, .ref c4, .ref c5, .ref c6, .ref c7])), (c1, .inl (T 0, 24, .inl f1)), (c2, .inl (T 0, 24, .inl f2)), (c3, .inl (T 0, 24, .inl (upd f3 (x1.toNatClampNeg) (-1)))), (c4, .inl (T 0, 24, .inl (upd f4 (x1.toNatClampNeg) (-1)))), (c5, .inl (T 0, 24, .inl g5)), (c6, .inl (T 0, 24, .inl g6)), (c7, .inl (T 0, 24, .inl g7))] H := hP
      have hD : va_D A [(h0, .inr (1, [.int n0, .ref c1, .ref c2, .ref c3, .ref c4, .ref c5, .ref c6, .ref c7])), (c1, .inl (T 0, 24, .inl f1)), (c2, .inl (T 0, 24, .inl f2)), (c3, .inl (T 0, 24, .inl (upd f3 (x1.toNatClampNeg) (-1)))), (c4, .inl (T 0, 24, .inl (upd f4 (x1.toNatClampNeg) (-1)))), (c5, .inl (T 0, 24, .inl g5)), (c6, .inl (T 0, 24, .inl g6)), (c7, .inl (T 0, 24, .inl g7))] := hD
      have hinv : 0 ≤ ii.toInt ∧ okC f1 (upd f3 (x1.toNatClampNeg) (-1)) (upd f4 (x1.toNatClampNeg) (-1)) g5 ∧ ∀ j : Nat, (j : Int) < ii.toInt → mesP f1 f2 (upd f3 (x1.toNatClampNeg) (-1)) (upd f4 (x1.toNatClampNeg) (-1)) g5 g6 g7 j := hinv
      obtain ⟨hii, hok, hme⟩ := hinv
      refine lv_iload hx hb dX2_rename_47 (lv_at hl 0 rfl) ?_
      refine lv_aload_n hx hb dX2_rename_49 rfl (lv_at hl 1 rfl) ?_
      refine va_get (D := D) (ci := 1) (v := .int n0) (C := RX2) (T := TX2) (N := 8) hx hb hts in_X2_rename_X2 hown hE.1 hP 0 rfl rfl 0 (by decide +kernel) (hts (.fieldLink RX2 9 "ClauseBook$Clauses" "size" "I") (List.mem_of_getElem? (i := 4) rfl)) (fun _ h9 => h9) rfl dX2_rename_50 ?_
      refine lv_icmp_ge (tgt := 68) hx hb dX2_rename_53 (by decide +kernel) (fun c_5 => ?_) (fun c_5 => ?_)
      · rw [fa_le] at c_5
        exact W.vret hx hb hr (fun t ht hW => ⟨⟨(fun k => [f1, f1, f1, (upd f3 (x1.toNatClampNeg) (-1)), (upd f4 (x1.toNatClampNeg) (-1)), g5, g6, g7].getD k f1), rfl, ⟨hok, (show (upd f3 (x1.toNatClampNeg) (-1)) = upd f3 (x1.toNatClampNeg) (if 1 ≤ (nmT ((f1 (x1.toNatClampNeg)).toNatClampNeg)).toInt then x2 else -1) from (by rw [if_neg (by rw [← ez_2]; omega)])), (show (upd f4 (x1.toNatClampNeg) (-1)) = upd f4 (x1.toNatClampNeg) (if (nmT ((f1 (x1.toNatClampNeg)).toNatClampNeg)).toInt = 2 then x3 else -1) from (by rw [if_neg (by rw [← ez_2]; omega)])), (fun j hj => hme j (by omega))⟩, by rw [ht]; exact hP.sub [0, 1, 2, 3, 4, 5, 6, 7] rfl, hD.sub [0, 1, 2, 3, 4, 5, 6, 7] (by decide +kernel) rfl⟩, hS.F ht⟩) hS.2.2 dX2_rename_68
      · rw [fa_le] at c_5
        refine lv_aload_n hx hb dX2_rename_56 rfl (lv_at hl 1 rfl) ?_
        refine lv_iload hx hb dX2_rename_57 (lv_at hl 0 rfl) ?_
        have hFc := va_free (wc := [(h0, .inr (1, [.int n0, .ref c1, .ref c2, .ref c3, .ref c4, .ref c5, .ref c6, .ref c7])), (c1, .inl (T 0, 24, .inl f1)), (c2, .inl (T 0, 24, .inl f2)), (c3, .inl (T 0, 24, .inl (upd f3 (x1.toNatClampNeg) (-1)))), (c4, .inl (T 0, 24, .inl (upd f4 (x1.toNatClampNeg) (-1)))), (c5, .inl (T 0, 24, .inl g5)), (c6, .inl (T 0, 24, .inl g6)), (c7, .inl (T 0, 24, .inl g7))]) hD hS hA [0, 1, 2, 3, 4, 5, 6, 7] rfl
        refine va_callv (va_runV (As := [.int ii]) (rest := []) ⟨hx, hb, hml, hown, hts⟩ (c_X2_measure l D T ad sa av ta _ h0 n0 c1 c2 c3 c4 c5 c6 c7 f1 f2 (upd f3 (x1.toNatClampNeg) (-1)) (upd f4 (x1.toNatClampNeg) (-1)) g5 g6 g7 ii (by omega) hok) (cwV 1 hts gX2_rename_X2_measure rfl rfl rfl hv_X2_measure ⟨Nat.le_of_ble_eq_true rfl, Nat.le_of_ble_eq_true rfl⟩) (pWk_V (q := (RX2, TX2, 8)) (ci := 1) (q0 := 0) hP hE hD hV hS hFc rfl rfl [0, 1, 2, 3, 4, 5, 6, 7] (by decide +kernel) rfl rfl) rfl rfl hl.1 rfl (lv_room (Nat.le_of_ble_eq_true rfl)) dX2_rename_59 ⟨Nat.le_of_ble_eq_true rfl, Nat.le_of_ble_eq_true rfl⟩) hS (fun q _ h => hFc q h) hFc (fun u_7 t H1 locs ht hvm hr_6 hB hz1 hk1 hS => ?_)
        obtain ⟨f_8, f_9, f_10⟩ := u_7
        have hef_8 : ∀ j : Nat, j < 24 → (f_8 j).toInt ≤ 6 := hr_6.1
        have hmqf_8 : mesQ f1 f2 (upd f3 (x1.toNatClampNeg) (-1)) (upd f4 (x1.toNatClampNeg) (-1)) g5 g6 g7 ii f_8 f_9 f_10 := hr_6.2
        obtain ⟨hP1, hD1⟩ := hB
        rw [ht] at hP1
        obtain ⟨hP, hD⟩ := va_repl [(h0, .inr (1, [.int n0, .ref c1, .ref c2, .ref c3, .ref c4, .ref c5, .ref c6, .ref c7])), (c1, .inl (T 0, 24, .inl f1)), (c2, .inl (T 0, 24, .inl f2)), (c3, .inl (T 0, 24, .inl (upd f3 (x1.toNatClampNeg) (-1)))), (c4, .inl (T 0, 24, .inl (upd f4 (x1.toNatClampNeg) (-1)))), (c5, .inl (T 0, 24, .inl f_8)), (c6, .inl (T 0, 24, .inl f_9)), (c7, .inl (T 0, 24, .inl f_10))] hP hD [0, 1, 2, 3, 4, 5, 6, 7] [0, 1, 2, 3, 4, 5, 6, 7] rfl (by decide +kernel) rfl rfl rfl hk1 hP1
        clear hP1 hD1 hFc
        generalize H1 = H at hP hS ⊢
        obtain ⟨z_11, ez_11⟩ : ∃ y : Int32, y = ii + 1 := ⟨_, rfl⟩
        refine lv_iinc (v := z_11) (lv' := [(5, .int z_11), (0, .ref h0), (1, .int x1), (2, .int x2), (3, .int x3), (4, .int z_2)]) hx hb dX2_rename_62 hl (k := 0) rfl (by rw [ez_11]; rfl) (by decide +kernel) rfl (fun ls hl => ?_)
        refine lv_goto (tgt := 47) hx hb dX2_rename_65 (by decide +kernel) ?_
        exact ih (z_11, f_8, f_9, f_10) ls _ _ ⟨lv_sub hl [0, 1, 2, 3, 4, 5] rfl, hP.sub [0, 1, 2, 3, 4, 5, 6, 7] rfl, hD.sub [0, 1, 2, 3, 4, 5, 6, 7] (by decide +kernel) rfl, hS, ⟨(by subst_vars; (try dsimp only); rw [inc1 (n := 24) (by omega) (by decide +kernel)]; omega), okC.ends hok hef_8, mes_loop hok (by omega) (by rw [ez_11]; exact inc1 (n := 24) (by omega) (by decide +kernel)) hme hmqf_8⟩⟩ (by subst_vars; (try dsimp only); rw [inc1 (n := 24) (by omega) (by decide +kernel)]; omega)
    · rw [fa_eq] at c_4
      try rw [ti_2] at c_4
      refine lv_iload_n hx hb dX2_rename_38 rfl (lv_at hl 4 rfl) ?_
      refine lv_goto (tgt := 43) hx hb dX2_rename_39 (by decide +kernel) ?_
      refine va_iast hx hb hE.1 hP hD hS 4 0 rfl rfl (by rw [vp_in_iff]; first | omega | (subst_vars; omega)) dX2_rename_43 (fun H locs hP hD hS => ?_)
      obtain ⟨hP, hD⟩ := wPD [(h0, .inr (1, [.int n0, .ref c1, .ref c2, .ref c3, .ref c4, .ref c5, .ref c6, .ref c7])), (c1, .inl (T 0, 24, .inl f1)), (c2, .inl (T 0, 24, .inl f2)), (c3, .inl (T 0, 24, .inl (upd f3 (x1.toNatClampNeg) (-1)))), (c4, .inl (T 0, 24, .inl (upd f4 (x1.toNatClampNeg) x3))), (c5, .inl (T 0, 24, .inl f5)), (c6, .inl (T 0, 24, .inl f6)), (c7, .inl (T 0, 24, .inl f7))] hP hD rfl
      have hme := mes_cd (c := (-1)) (d := x3) (okW.N hok (by have h9 := tn hx1.1; omega)) hx1.1 hme
      have hok : okC f1 (upd f3 (x1.toNatClampNeg) (-1)) (upd f4 (x1.toNatClampNeg) x3) f5 := okW.C (by omega) hok (fun a => by rw [← ez_2] at a; first | exact hf (by rw [← ez_2]; omega) | (exfalso; omega)) (fun a => by rw [← ez_2] at a; first | exact hs (by rw [← ez_2]; omega) | (exfalso; omega))
      refine lv_iload_n hx hb dX2_rename_44 rfl (lv_at hl 2 rfl) ?_
      refine lv_istore (lv' := [(5, .int x1), (4, .int z_2), (0, .ref h0), (1, .int x1), (2, .int x2), (3, .int x3)]) hx hb dX2_rename_45 hl (by decide +kernel) rfl (fun ls hl => ?_)
      refine loopW (σ := (Int32) × (Nat → Int32) × (Nat → Int32) × (Nat → Int32)) (fun x9 ls H locs => lv_has ls 6 [(5, .int x9.1), (0, .ref h0), (1, .int x1), (2, .int x2), (3, .int x3), (4, .int z_2)] ∧ va_P D vwCl [(h0, .inr (1, [.int n0, .ref c1, .ref c2, .ref c3, .ref c4, .ref c5, .ref c6, .ref c7])), (c1, .inl (T 0, 24, .inl f1)), (c2, .inl (T 0, 24, .inl f2)), (c3, .inl (T 0, 24, .inl (upd f3 (x1.toNatClampNeg) (-1)))), (c4, .inl (T 0, 24, .inl (upd f4 (x1.toNatClampNeg) x3))), (c5, .inl (T 0, 24, .inl x9.2.1)), (c6, .inl (T 0, 24, .inl x9.2.2.1)), (c7, .inl (T 0, 24, .inl x9.2.2.2))] H ∧ va_D A [(h0, .inr (1, [.int n0, .ref c1, .ref c2, .ref c3, .ref c4, .ref c5, .ref c6, .ref c7])), (c1, .inl (T 0, 24, .inl f1)), (c2, .inl (T 0, 24, .inl f2)), (c3, .inl (T 0, 24, .inl (upd f3 (x1.toNatClampNeg) (-1)))), (c4, .inl (T 0, 24, .inl (upd f4 (x1.toNatClampNeg) x3))), (c5, .inl (T 0, 24, .inl x9.2.1)), (c6, .inl (T 0, 24, .inl x9.2.2.1)), (c7, .inl (T 0, 24, .inl x9.2.2.2))] ∧ va_S A s.heap H locs ∧ (0 ≤ x9.1.toInt ∧ okC f1 (upd f3 (x1.toNatClampNeg) (-1)) (upd f4 (x1.toNatClampNeg) x3) x9.2.1 ∧ ∀ j : Nat, (j : Int) < x9.1.toInt → mesP f1 f2 (upd f3 (x1.toNatClampNeg) (-1)) (upd f4 (x1.toNatClampNeg) x3) x9.2.1 x9.2.2.1 x9.2.2.2 j)) (fun x9 => (24 - x9.1.toInt).toNat) (fun x9 ls H locs hI ih => ?_) (x1, f5, f6, f7) ls ⟨lv_sub hl [0, 2, 3, 4, 5, 1] rfl, hP.sub [0, 1, 2, 3, 4, 5, 6, 7] rfl, hD.sub [0, 1, 2, 3, 4, 5, 6, 7] (by decide +kernel) rfl, hS, ⟨(by (try dsimp only); omega), hok, hme⟩⟩
      obtain ⟨ii, g5, g6, g7⟩ := x9
      obtain ⟨hl, hP, hD, hS, hinv⟩ := hI
      have hl : lv_has ls 6 [(5, .int ii), (0, .ref h0), (1, .int x1), (2, .int x2), (3, .int x3), (4, .int z_2)] := hl
      have hP : va_P D vwCl [(h0, .inr (1, [.int n0, .ref c1, .ref c2, .ref c3, .ref c4, .ref c5, .ref c6, .ref c7])), (c1, .inl (T 0, 24, .inl f1)), (c2, .inl (T 0, 24, .inl f2)), (c3, .inl (T 0, 24, .inl (upd f3 (x1.toNatClampNeg) (-1)))), (c4, .inl (T 0, 24, .inl (upd f4 (x1.toNatClampNeg) x3))), (c5, .inl (T 0, 24, .inl g5)), (c6, .inl (T 0, 24, .inl g6)), (c7, .inl (T 0, 24, .inl g7))] H := hP
      have hD : va_D A [(h0, .inr (1, [.int n0, .ref c1, .ref c2, .ref c3, .ref c4, .ref c5, .ref c6, .ref c7])), (c1, .inl (T 0, 24, .inl f1)), (c2, .inl (T 0, 24, .inl f2)), (c3, .inl (T 0, 24, .inl (upd f3 (x1.toNatClampNeg) (-1)))), (c4, .inl (T 0, 24, .inl (upd f4 (x1.toNatClampNeg) x3))), (c5, .inl (T 0, 24, .inl g5)), (c6, .inl (T 0, 24, .inl g6)), (c7, .inl (T 0, 24, .inl g7))] := hD
      have hinv : 0 ≤ ii.toInt ∧ okC f1 (upd f3 (x1.toNatClampNeg) (-1)) (upd f4 (x1.toNatClampNeg) x3) g5 ∧ ∀ j : Nat, (j : Int) < ii.toInt → mesP f1 f2 (upd f3 (x1.toNatClampNeg) (-1)) (upd f4 (x1.toNatClampNeg) x3) g5 g6 g7 j := hinv
      obtain ⟨hii, hok, hme⟩ := hinv
      refine lv_iload hx hb dX2_rename_47 (lv_at hl 0 rfl) ?_
      refine lv_aload_n hx hb dX2_rename_49 rfl (lv_at hl 1 rfl) ?_
      refine va_get (D := D) (ci := 1) (v := .int n0) (C := RX2) (T := TX2) (N := 8) hx hb hts in_X2_rename_X2 hown hE.1 hP 0 rfl rfl 0 (by decide +kernel) (hts (.fieldLink RX2 9 "ClauseBook$Clauses" "size" "I") (List.mem_of_getElem? (i := 4) rfl)) (fun _ h9 => h9) rfl dX2_rename_50 ?_
      refine lv_icmp_ge (tgt := 68) hx hb dX2_rename_53 (by decide +kernel) (fun c_12 => ?_) (fun c_12 => ?_)
      · rw [fa_le] at c_12
        exact W.vret hx hb hr (fun t ht hW => ⟨⟨(fun k => [f1, f1, f1, (upd f3 (x1.toNatClampNeg) (-1)), (upd f4 (x1.toNatClampNeg) x3), g5, g6, g7].getD k f1), rfl, ⟨hok, (show (upd f3 (x1.toNatClampNeg) (-1)) = upd f3 (x1.toNatClampNeg) (if 1 ≤ (nmT ((f1 (x1.toNatClampNeg)).toNatClampNeg)).toInt then x2 else -1) from (by rw [if_neg (by rw [← ez_2]; omega)])), (show (upd f4 (x1.toNatClampNeg) x3) = upd f4 (x1.toNatClampNeg) (if (nmT ((f1 (x1.toNatClampNeg)).toNatClampNeg)).toInt = 2 then x3 else -1) from (by rw [if_pos (by rw [← ez_2]; omega)])), (fun j hj => hme j (by omega))⟩, by rw [ht]; exact hP.sub [0, 1, 2, 3, 4, 5, 6, 7] rfl, hD.sub [0, 1, 2, 3, 4, 5, 6, 7] (by decide +kernel) rfl⟩, hS.F ht⟩) hS.2.2 dX2_rename_68
      · rw [fa_le] at c_12
        refine lv_aload_n hx hb dX2_rename_56 rfl (lv_at hl 1 rfl) ?_
        refine lv_iload hx hb dX2_rename_57 (lv_at hl 0 rfl) ?_
        have hFc := va_free (wc := [(h0, .inr (1, [.int n0, .ref c1, .ref c2, .ref c3, .ref c4, .ref c5, .ref c6, .ref c7])), (c1, .inl (T 0, 24, .inl f1)), (c2, .inl (T 0, 24, .inl f2)), (c3, .inl (T 0, 24, .inl (upd f3 (x1.toNatClampNeg) (-1)))), (c4, .inl (T 0, 24, .inl (upd f4 (x1.toNatClampNeg) x3))), (c5, .inl (T 0, 24, .inl g5)), (c6, .inl (T 0, 24, .inl g6)), (c7, .inl (T 0, 24, .inl g7))]) hD hS hA [0, 1, 2, 3, 4, 5, 6, 7] rfl
        refine va_callv (va_runV (As := [.int ii]) (rest := []) ⟨hx, hb, hml, hown, hts⟩ (c_X2_measure l D T ad sa av ta _ h0 n0 c1 c2 c3 c4 c5 c6 c7 f1 f2 (upd f3 (x1.toNatClampNeg) (-1)) (upd f4 (x1.toNatClampNeg) x3) g5 g6 g7 ii (by omega) hok) (cwV 1 hts gX2_rename_X2_measure rfl rfl rfl hv_X2_measure ⟨Nat.le_of_ble_eq_true rfl, Nat.le_of_ble_eq_true rfl⟩) (pWk_V (q := (RX2, TX2, 8)) (ci := 1) (q0 := 0) hP hE hD hV hS hFc rfl rfl [0, 1, 2, 3, 4, 5, 6, 7] (by decide +kernel) rfl rfl) rfl rfl hl.1 rfl (lv_room (Nat.le_of_ble_eq_true rfl)) dX2_rename_59 ⟨Nat.le_of_ble_eq_true rfl, Nat.le_of_ble_eq_true rfl⟩) hS (fun q _ h => hFc q h) hFc (fun u_14 t H1 locs ht hvm hr_13 hB hz1 hk1 hS => ?_)
        obtain ⟨f_15, f_16, f_17⟩ := u_14
        have hef_15 : ∀ j : Nat, j < 24 → (f_15 j).toInt ≤ 6 := hr_13.1
        have hmqf_15 : mesQ f1 f2 (upd f3 (x1.toNatClampNeg) (-1)) (upd f4 (x1.toNatClampNeg) x3) g5 g6 g7 ii f_15 f_16 f_17 := hr_13.2
        obtain ⟨hP1, hD1⟩ := hB
        rw [ht] at hP1
        obtain ⟨hP, hD⟩ := va_repl [(h0, .inr (1, [.int n0, .ref c1, .ref c2, .ref c3, .ref c4, .ref c5, .ref c6, .ref c7])), (c1, .inl (T 0, 24, .inl f1)), (c2, .inl (T 0, 24, .inl f2)), (c3, .inl (T 0, 24, .inl (upd f3 (x1.toNatClampNeg) (-1)))), (c4, .inl (T 0, 24, .inl (upd f4 (x1.toNatClampNeg) x3))), (c5, .inl (T 0, 24, .inl f_15)), (c6, .inl (T 0, 24, .inl f_16)), (c7, .inl (T 0, 24, .inl f_17))] hP hD [0, 1, 2, 3, 4, 5, 6, 7] [0, 1, 2, 3, 4, 5, 6, 7] rfl (by decide +kernel) rfl rfl rfl hk1 hP1
        clear hP1 hD1 hFc
        generalize H1 = H at hP hS ⊢
        obtain ⟨z_18, ez_18⟩ : ∃ y : Int32, y = ii + 1 := ⟨_, rfl⟩
        refine lv_iinc (v := z_18) (lv' := [(5, .int z_18), (0, .ref h0), (1, .int x1), (2, .int x2), (3, .int x3), (4, .int z_2)]) hx hb dX2_rename_62 hl (k := 0) rfl (by rw [ez_18]; rfl) (by decide +kernel) rfl (fun ls hl => ?_)
        refine lv_goto (tgt := 47) hx hb dX2_rename_65 (by decide +kernel) ?_
        exact ih (z_18, f_15, f_16, f_17) ls _ _ ⟨lv_sub hl [0, 1, 2, 3, 4, 5] rfl, hP.sub [0, 1, 2, 3, 4, 5, 6, 7] rfl, hD.sub [0, 1, 2, 3, 4, 5, 6, 7] (by decide +kernel) rfl, hS, ⟨(by subst_vars; (try dsimp only); rw [inc1 (n := 24) (by omega) (by decide +kernel)]; omega), okC.ends hok hef_15, mes_loop hok (by omega) (by rw [ez_18]; exact inc1 (n := 24) (by omega) (by decide +kernel)) hme hmqf_15⟩⟩ (by subst_vars; (try dsimp only); rw [inc1 (n := 24) (by omega) (by decide +kernel)]; omega)
  · rw [fa_lt] at c_3
    try rw [ti_1] at c_3
    refine lv_iload_n hx hb dX2_rename_21 rfl (lv_at hl 3 rfl) ?_
    refine lv_goto (tgt := 26) hx hb dX2_rename_22 (by decide +kernel) ?_
    refine va_iast hx hb hE.1 hP hD hS 3 0 rfl rfl (by rw [vp_in_iff]; first | omega | (subst_vars; omega)) dX2_rename_26 (fun H locs hP hD hS => ?_)
    obtain ⟨hP, hD⟩ := wPD [(h0, .inr (1, [.int n0, .ref c1, .ref c2, .ref c3, .ref c4, .ref c5, .ref c6, .ref c7])), (c1, .inl (T 0, 24, .inl f1)), (c2, .inl (T 0, 24, .inl f2)), (c3, .inl (T 0, 24, .inl (upd f3 (x1.toNatClampNeg) x2))), (c4, .inl (T 0, 24, .inl f4)), (c5, .inl (T 0, 24, .inl f5)), (c6, .inl (T 0, 24, .inl f6)), (c7, .inl (T 0, 24, .inl f7))] hP hD rfl
    refine lv_aload_n hx hb dX2_rename_27 rfl (lv_at hl 1 rfl) ?_
    refine va_get (D := D) (ci := 1) (v := .ref c4) (C := RX2) (T := TX2) (N := 8) hx hb hts in_X2_rename_X2 hown hE.1 hP 0 rfl rfl 4 (by decide +kernel) (hts (.fieldLink RX2 25 "ClauseBook$Clauses" "d" "[I") (List.mem_of_getElem? (i := 3) rfl)) (fun _ h9 => h9) rfl dX2_rename_28 ?_
    refine lv_iload_n hx hb dX2_rename_31 rfl (lv_at hl 2 rfl) ?_
    refine lv_iload hx hb dX2_rename_32 (lv_at hl 0 rfl) ?_
    refine lv_iconst (v := 2) hx hb dX2_rename_34 (by decide +kernel) ?_
    refine lv_icmp_ne (tgt := 42) hx hb dX2_rename_35 (by decide +kernel) (fun c_19 => ?_) (fun c_19 => ?_)
    · rw [fa_eq] at c_19
      try rw [ti_2] at c_19
      refine lv_iconst (v := (-1)) hx hb dX2_rename_42 (by decide +kernel) ?_
      refine va_iast hx hb hE.1 hP hD hS 4 0 rfl rfl (by rw [vp_in_iff]; first | omega | (subst_vars; omega)) dX2_rename_43 (fun H locs hP hD hS => ?_)
      obtain ⟨hP, hD⟩ := wPD [(h0, .inr (1, [.int n0, .ref c1, .ref c2, .ref c3, .ref c4, .ref c5, .ref c6, .ref c7])), (c1, .inl (T 0, 24, .inl f1)), (c2, .inl (T 0, 24, .inl f2)), (c3, .inl (T 0, 24, .inl (upd f3 (x1.toNatClampNeg) x2))), (c4, .inl (T 0, 24, .inl (upd f4 (x1.toNatClampNeg) (-1)))), (c5, .inl (T 0, 24, .inl f5)), (c6, .inl (T 0, 24, .inl f6)), (c7, .inl (T 0, 24, .inl f7))] hP hD rfl
      have hme := mes_cd (c := x2) (d := (-1)) (okW.N hok (by have h9 := tn hx1.1; omega)) hx1.1 hme
      have hok : okC f1 (upd f3 (x1.toNatClampNeg) x2) (upd f4 (x1.toNatClampNeg) (-1)) f5 := okW.C (by omega) hok (fun a => by rw [← ez_2] at a; first | exact hf (by rw [← ez_2]; omega) | (exfalso; omega)) (fun a => by rw [← ez_2] at a; first | exact hs (by rw [← ez_2]; omega) | (exfalso; omega))
      refine lv_iload_n hx hb dX2_rename_44 rfl (lv_at hl 2 rfl) ?_
      refine lv_istore (lv' := [(5, .int x1), (4, .int z_2), (0, .ref h0), (1, .int x1), (2, .int x2), (3, .int x3)]) hx hb dX2_rename_45 hl (by decide +kernel) rfl (fun ls hl => ?_)
      refine loopW (σ := (Int32) × (Nat → Int32) × (Nat → Int32) × (Nat → Int32)) (fun x9 ls H locs => lv_has ls 6 [(5, .int x9.1), (0, .ref h0), (1, .int x1), (2, .int x2), (3, .int x3), (4, .int z_2)] ∧ va_P D vwCl [(h0, .inr (1, [.int n0, .ref c1, .ref c2, .ref c3, .ref c4, .ref c5, .ref c6, .ref c7])), (c1, .inl (T 0, 24, .inl f1)), (c2, .inl (T 0, 24, .inl f2)), (c3, .inl (T 0, 24, .inl (upd f3 (x1.toNatClampNeg) x2))), (c4, .inl (T 0, 24, .inl (upd f4 (x1.toNatClampNeg) (-1)))), (c5, .inl (T 0, 24, .inl x9.2.1)), (c6, .inl (T 0, 24, .inl x9.2.2.1)), (c7, .inl (T 0, 24, .inl x9.2.2.2))] H ∧ va_D A [(h0, .inr (1, [.int n0, .ref c1, .ref c2, .ref c3, .ref c4, .ref c5, .ref c6, .ref c7])), (c1, .inl (T 0, 24, .inl f1)), (c2, .inl (T 0, 24, .inl f2)), (c3, .inl (T 0, 24, .inl (upd f3 (x1.toNatClampNeg) x2))), (c4, .inl (T 0, 24, .inl (upd f4 (x1.toNatClampNeg) (-1)))), (c5, .inl (T 0, 24, .inl x9.2.1)), (c6, .inl (T 0, 24, .inl x9.2.2.1)), (c7, .inl (T 0, 24, .inl x9.2.2.2))] ∧ va_S A s.heap H locs ∧ (0 ≤ x9.1.toInt ∧ okC f1 (upd f3 (x1.toNatClampNeg) x2) (upd f4 (x1.toNatClampNeg) (-1)) x9.2.1 ∧ ∀ j : Nat, (j : Int) < x9.1.toInt → mesP f1 f2 (upd f3 (x1.toNatClampNeg) x2) (upd f4 (x1.toNatClampNeg) (-1)) x9.2.1 x9.2.2.1 x9.2.2.2 j)) (fun x9 => (24 - x9.1.toInt).toNat) (fun x9 ls H locs hI ih => ?_) (x1, f5, f6, f7) ls ⟨lv_sub hl [0, 2, 3, 4, 5, 1] rfl, hP.sub [0, 1, 2, 3, 4, 5, 6, 7] rfl, hD.sub [0, 1, 2, 3, 4, 5, 6, 7] (by decide +kernel) rfl, hS, ⟨(by (try dsimp only); omega), hok, hme⟩⟩
      obtain ⟨ii, g5, g6, g7⟩ := x9
      obtain ⟨hl, hP, hD, hS, hinv⟩ := hI
      have hl : lv_has ls 6 [(5, .int ii), (0, .ref h0), (1, .int x1), (2, .int x2), (3, .int x3), (4, .int z_2)] := hl
      have hP : va_P D vwCl [(h0, .inr (1, [.int n0, .ref c1, .ref c2, .ref c3, .ref c4, .ref c5, .ref c6, .ref c7])), (c1, .inl (T 0, 24, .inl f1)), (c2, .inl (T 0, 24, .inl f2)), (c3, .inl (T 0, 24, .inl (upd f3 (x1.toNatClampNeg) x2))), (c4, .inl (T 0, 24, .inl (upd f4 (x1.toNatClampNeg) (-1)))), (c5, .inl (T 0, 24, .inl g5)), (c6, .inl (T 0, 24, .inl g6)), (c7, .inl (T 0, 24, .inl g7))] H := hP
      have hD : va_D A [(h0, .inr (1, [.int n0, .ref c1, .ref c2, .ref c3, .ref c4, .ref c5, .ref c6, .ref c7])), (c1, .inl (T 0, 24, .inl f1)), (c2, .inl (T 0, 24, .inl f2)), (c3, .inl (T 0, 24, .inl (upd f3 (x1.toNatClampNeg) x2))), (c4, .inl (T 0, 24, .inl (upd f4 (x1.toNatClampNeg) (-1)))), (c5, .inl (T 0, 24, .inl g5)), (c6, .inl (T 0, 24, .inl g6)), (c7, .inl (T 0, 24, .inl g7))] := hD
      have hinv : 0 ≤ ii.toInt ∧ okC f1 (upd f3 (x1.toNatClampNeg) x2) (upd f4 (x1.toNatClampNeg) (-1)) g5 ∧ ∀ j : Nat, (j : Int) < ii.toInt → mesP f1 f2 (upd f3 (x1.toNatClampNeg) x2) (upd f4 (x1.toNatClampNeg) (-1)) g5 g6 g7 j := hinv
      obtain ⟨hii, hok, hme⟩ := hinv
      refine lv_iload hx hb dX2_rename_47 (lv_at hl 0 rfl) ?_
      refine lv_aload_n hx hb dX2_rename_49 rfl (lv_at hl 1 rfl) ?_
      refine va_get (D := D) (ci := 1) (v := .int n0) (C := RX2) (T := TX2) (N := 8) hx hb hts in_X2_rename_X2 hown hE.1 hP 0 rfl rfl 0 (by decide +kernel) (hts (.fieldLink RX2 9 "ClauseBook$Clauses" "size" "I") (List.mem_of_getElem? (i := 4) rfl)) (fun _ h9 => h9) rfl dX2_rename_50 ?_
      refine lv_icmp_ge (tgt := 68) hx hb dX2_rename_53 (by decide +kernel) (fun c_20 => ?_) (fun c_20 => ?_)
      · rw [fa_le] at c_20
        exact W.vret hx hb hr (fun t ht hW => ⟨⟨(fun k => [f1, f1, f1, (upd f3 (x1.toNatClampNeg) x2), (upd f4 (x1.toNatClampNeg) (-1)), g5, g6, g7].getD k f1), rfl, ⟨hok, (show (upd f3 (x1.toNatClampNeg) x2) = upd f3 (x1.toNatClampNeg) (if 1 ≤ (nmT ((f1 (x1.toNatClampNeg)).toNatClampNeg)).toInt then x2 else -1) from (by rw [if_pos (by rw [← ez_2]; omega)])), (show (upd f4 (x1.toNatClampNeg) (-1)) = upd f4 (x1.toNatClampNeg) (if (nmT ((f1 (x1.toNatClampNeg)).toNatClampNeg)).toInt = 2 then x3 else -1) from (by rw [if_neg (by rw [← ez_2]; omega)])), (fun j hj => hme j (by omega))⟩, by rw [ht]; exact hP.sub [0, 1, 2, 3, 4, 5, 6, 7] rfl, hD.sub [0, 1, 2, 3, 4, 5, 6, 7] (by decide +kernel) rfl⟩, hS.F ht⟩) hS.2.2 dX2_rename_68
      · rw [fa_le] at c_20
        refine lv_aload_n hx hb dX2_rename_56 rfl (lv_at hl 1 rfl) ?_
        refine lv_iload hx hb dX2_rename_57 (lv_at hl 0 rfl) ?_
        have hFc := va_free (wc := [(h0, .inr (1, [.int n0, .ref c1, .ref c2, .ref c3, .ref c4, .ref c5, .ref c6, .ref c7])), (c1, .inl (T 0, 24, .inl f1)), (c2, .inl (T 0, 24, .inl f2)), (c3, .inl (T 0, 24, .inl (upd f3 (x1.toNatClampNeg) x2))), (c4, .inl (T 0, 24, .inl (upd f4 (x1.toNatClampNeg) (-1)))), (c5, .inl (T 0, 24, .inl g5)), (c6, .inl (T 0, 24, .inl g6)), (c7, .inl (T 0, 24, .inl g7))]) hD hS hA [0, 1, 2, 3, 4, 5, 6, 7] rfl
        refine va_callv (va_runV (As := [.int ii]) (rest := []) ⟨hx, hb, hml, hown, hts⟩ (c_X2_measure l D T ad sa av ta _ h0 n0 c1 c2 c3 c4 c5 c6 c7 f1 f2 (upd f3 (x1.toNatClampNeg) x2) (upd f4 (x1.toNatClampNeg) (-1)) g5 g6 g7 ii (by omega) hok) (cwV 1 hts gX2_rename_X2_measure rfl rfl rfl hv_X2_measure ⟨Nat.le_of_ble_eq_true rfl, Nat.le_of_ble_eq_true rfl⟩) (pWk_V (q := (RX2, TX2, 8)) (ci := 1) (q0 := 0) hP hE hD hV hS hFc rfl rfl [0, 1, 2, 3, 4, 5, 6, 7] (by decide +kernel) rfl rfl) rfl rfl hl.1 rfl (lv_room (Nat.le_of_ble_eq_true rfl)) dX2_rename_59 ⟨Nat.le_of_ble_eq_true rfl, Nat.le_of_ble_eq_true rfl⟩) hS (fun q _ h => hFc q h) hFc (fun u_22 t H1 locs ht hvm hr_21 hB hz1 hk1 hS => ?_)
        obtain ⟨f_23, f_24, f_25⟩ := u_22
        have hef_23 : ∀ j : Nat, j < 24 → (f_23 j).toInt ≤ 6 := hr_21.1
        have hmqf_23 : mesQ f1 f2 (upd f3 (x1.toNatClampNeg) x2) (upd f4 (x1.toNatClampNeg) (-1)) g5 g6 g7 ii f_23 f_24 f_25 := hr_21.2
        obtain ⟨hP1, hD1⟩ := hB
        rw [ht] at hP1
        obtain ⟨hP, hD⟩ := va_repl [(h0, .inr (1, [.int n0, .ref c1, .ref c2, .ref c3, .ref c4, .ref c5, .ref c6, .ref c7])), (c1, .inl (T 0, 24, .inl f1)), (c2, .inl (T 0, 24, .inl f2)), (c3, .inl (T 0, 24, .inl (upd f3 (x1.toNatClampNeg) x2))), (c4, .inl (T 0, 24, .inl (upd f4 (x1.toNatClampNeg) (-1)))), (c5, .inl (T 0, 24, .inl f_23)), (c6, .inl (T 0, 24, .inl f_24)), (c7, .inl (T 0, 24, .inl f_25))] hP hD [0, 1, 2, 3, 4, 5, 6, 7] [0, 1, 2, 3, 4, 5, 6, 7] rfl (by decide +kernel) rfl rfl rfl hk1 hP1
        clear hP1 hD1 hFc
        generalize H1 = H at hP hS ⊢
        obtain ⟨z_26, ez_26⟩ : ∃ y : Int32, y = ii + 1 := ⟨_, rfl⟩
        refine lv_iinc (v := z_26) (lv' := [(5, .int z_26), (0, .ref h0), (1, .int x1), (2, .int x2), (3, .int x3), (4, .int z_2)]) hx hb dX2_rename_62 hl (k := 0) rfl (by rw [ez_26]; rfl) (by decide +kernel) rfl (fun ls hl => ?_)
        refine lv_goto (tgt := 47) hx hb dX2_rename_65 (by decide +kernel) ?_
        exact ih (z_26, f_23, f_24, f_25) ls _ _ ⟨lv_sub hl [0, 1, 2, 3, 4, 5] rfl, hP.sub [0, 1, 2, 3, 4, 5, 6, 7] rfl, hD.sub [0, 1, 2, 3, 4, 5, 6, 7] (by decide +kernel) rfl, hS, ⟨(by subst_vars; (try dsimp only); rw [inc1 (n := 24) (by omega) (by decide +kernel)]; omega), okC.ends hok hef_23, mes_loop hok (by omega) (by rw [ez_26]; exact inc1 (n := 24) (by omega) (by decide +kernel)) hme hmqf_23⟩⟩ (by subst_vars; (try dsimp only); rw [inc1 (n := 24) (by omega) (by decide +kernel)]; omega)
    · rw [fa_eq] at c_19
      try rw [ti_2] at c_19
      refine lv_iload_n hx hb dX2_rename_38 rfl (lv_at hl 4 rfl) ?_
      refine lv_goto (tgt := 43) hx hb dX2_rename_39 (by decide +kernel) ?_
      refine va_iast hx hb hE.1 hP hD hS 4 0 rfl rfl (by rw [vp_in_iff]; first | omega | (subst_vars; omega)) dX2_rename_43 (fun H locs hP hD hS => ?_)
      obtain ⟨hP, hD⟩ := wPD [(h0, .inr (1, [.int n0, .ref c1, .ref c2, .ref c3, .ref c4, .ref c5, .ref c6, .ref c7])), (c1, .inl (T 0, 24, .inl f1)), (c2, .inl (T 0, 24, .inl f2)), (c3, .inl (T 0, 24, .inl (upd f3 (x1.toNatClampNeg) x2))), (c4, .inl (T 0, 24, .inl (upd f4 (x1.toNatClampNeg) x3))), (c5, .inl (T 0, 24, .inl f5)), (c6, .inl (T 0, 24, .inl f6)), (c7, .inl (T 0, 24, .inl f7))] hP hD rfl
      have hme := mes_cd (c := x2) (d := x3) (okW.N hok (by have h9 := tn hx1.1; omega)) hx1.1 hme
      have hok : okC f1 (upd f3 (x1.toNatClampNeg) x2) (upd f4 (x1.toNatClampNeg) x3) f5 := okW.C (by omega) hok (fun a => by rw [← ez_2] at a; first | exact hf (by rw [← ez_2]; omega) | (exfalso; omega)) (fun a => by rw [← ez_2] at a; first | exact hs (by rw [← ez_2]; omega) | (exfalso; omega))
      refine lv_iload_n hx hb dX2_rename_44 rfl (lv_at hl 2 rfl) ?_
      refine lv_istore (lv' := [(5, .int x1), (4, .int z_2), (0, .ref h0), (1, .int x1), (2, .int x2), (3, .int x3)]) hx hb dX2_rename_45 hl (by decide +kernel) rfl (fun ls hl => ?_)
      refine loopW (σ := (Int32) × (Nat → Int32) × (Nat → Int32) × (Nat → Int32)) (fun x9 ls H locs => lv_has ls 6 [(5, .int x9.1), (0, .ref h0), (1, .int x1), (2, .int x2), (3, .int x3), (4, .int z_2)] ∧ va_P D vwCl [(h0, .inr (1, [.int n0, .ref c1, .ref c2, .ref c3, .ref c4, .ref c5, .ref c6, .ref c7])), (c1, .inl (T 0, 24, .inl f1)), (c2, .inl (T 0, 24, .inl f2)), (c3, .inl (T 0, 24, .inl (upd f3 (x1.toNatClampNeg) x2))), (c4, .inl (T 0, 24, .inl (upd f4 (x1.toNatClampNeg) x3))), (c5, .inl (T 0, 24, .inl x9.2.1)), (c6, .inl (T 0, 24, .inl x9.2.2.1)), (c7, .inl (T 0, 24, .inl x9.2.2.2))] H ∧ va_D A [(h0, .inr (1, [.int n0, .ref c1, .ref c2, .ref c3, .ref c4, .ref c5, .ref c6, .ref c7])), (c1, .inl (T 0, 24, .inl f1)), (c2, .inl (T 0, 24, .inl f2)), (c3, .inl (T 0, 24, .inl (upd f3 (x1.toNatClampNeg) x2))), (c4, .inl (T 0, 24, .inl (upd f4 (x1.toNatClampNeg) x3))), (c5, .inl (T 0, 24, .inl x9.2.1)), (c6, .inl (T 0, 24, .inl x9.2.2.1)), (c7, .inl (T 0, 24, .inl x9.2.2.2))] ∧ va_S A s.heap H locs ∧ (0 ≤ x9.1.toInt ∧ okC f1 (upd f3 (x1.toNatClampNeg) x2) (upd f4 (x1.toNatClampNeg) x3) x9.2.1 ∧ ∀ j : Nat, (j : Int) < x9.1.toInt → mesP f1 f2 (upd f3 (x1.toNatClampNeg) x2) (upd f4 (x1.toNatClampNeg) x3) x9.2.1 x9.2.2.1 x9.2.2.2 j)) (fun x9 => (24 - x9.1.toInt).toNat) (fun x9 ls H locs hI ih => ?_) (x1, f5, f6, f7) ls ⟨lv_sub hl [0, 2, 3, 4, 5, 1] rfl, hP.sub [0, 1, 2, 3, 4, 5, 6, 7] rfl, hD.sub [0, 1, 2, 3, 4, 5, 6, 7] (by decide +kernel) rfl, hS, ⟨(by (try dsimp only); omega), hok, hme⟩⟩
      obtain ⟨ii, g5, g6, g7⟩ := x9
      obtain ⟨hl, hP, hD, hS, hinv⟩ := hI
      have hl : lv_has ls 6 [(5, .int ii), (0, .ref h0), (1, .int x1), (2, .int x2), (3, .int x3), (4, .int z_2)] := hl
      have hP : va_P D vwCl [(h0, .inr (1, [.int n0, .ref c1, .ref c2, .ref c3, .ref c4, .ref c5, .ref c6, .ref c7])), (c1, .inl (T 0, 24, .inl f1)), (c2, .inl (T 0, 24, .inl f2)), (c3, .inl (T 0, 24, .inl (upd f3 (x1.toNatClampNeg) x2))), (c4, .inl (T 0, 24, .inl (upd f4 (x1.toNatClampNeg) x3))), (c5, .inl (T 0, 24, .inl g5)), (c6, .inl (T 0, 24, .inl g6)), (c7, .inl (T 0, 24, .inl g7))] H := hP
      have hD : va_D A [(h0, .inr (1, [.int n0, .ref c1, .ref c2, .ref c3, .ref c4, .ref c5, .ref c6, .ref c7])), (c1, .inl (T 0, 24, .inl f1)), (c2, .inl (T 0, 24, .inl f2)), (c3, .inl (T 0, 24, .inl (upd f3 (x1.toNatClampNeg) x2))), (c4, .inl (T 0, 24, .inl (upd f4 (x1.toNatClampNeg) x3))), (c5, .inl (T 0, 24, .inl g5)), (c6, .inl (T 0, 24, .inl g6)), (c7, .inl (T 0, 24, .inl g7))] := hD
      have hinv : 0 ≤ ii.toInt ∧ okC f1 (upd f3 (x1.toNatClampNeg) x2) (upd f4 (x1.toNatClampNeg) x3) g5 ∧ ∀ j : Nat, (j : Int) < ii.toInt → mesP f1 f2 (upd f3 (x1.toNatClampNeg) x2) (upd f4 (x1.toNatClampNeg) x3) g5 g6 g7 j := hinv
      obtain ⟨hii, hok, hme⟩ := hinv
      refine lv_iload hx hb dX2_rename_47 (lv_at hl 0 rfl) ?_
      refine lv_aload_n hx hb dX2_rename_49 rfl (lv_at hl 1 rfl) ?_
      refine va_get (D := D) (ci := 1) (v := .int n0) (C := RX2) (T := TX2) (N := 8) hx hb hts in_X2_rename_X2 hown hE.1 hP 0 rfl rfl 0 (by decide +kernel) (hts (.fieldLink RX2 9 "ClauseBook$Clauses" "size" "I") (List.mem_of_getElem? (i := 4) rfl)) (fun _ h9 => h9) rfl dX2_rename_50 ?_
      refine lv_icmp_ge (tgt := 68) hx hb dX2_rename_53 (by decide +kernel) (fun c_27 => ?_) (fun c_27 => ?_)
      · rw [fa_le] at c_27
        exact W.vret hx hb hr (fun t ht hW => ⟨⟨(fun k => [f1, f1, f1, (upd f3 (x1.toNatClampNeg) x2), (upd f4 (x1.toNatClampNeg) x3), g5, g6, g7].getD k f1), rfl, ⟨hok, (show (upd f3 (x1.toNatClampNeg) x2) = upd f3 (x1.toNatClampNeg) (if 1 ≤ (nmT ((f1 (x1.toNatClampNeg)).toNatClampNeg)).toInt then x2 else -1) from (by rw [if_pos (by rw [← ez_2]; omega)])), (show (upd f4 (x1.toNatClampNeg) x3) = upd f4 (x1.toNatClampNeg) (if (nmT ((f1 (x1.toNatClampNeg)).toNatClampNeg)).toInt = 2 then x3 else -1) from (by rw [if_pos (by rw [← ez_2]; omega)])), (fun j hj => hme j (by omega))⟩, by rw [ht]; exact hP.sub [0, 1, 2, 3, 4, 5, 6, 7] rfl, hD.sub [0, 1, 2, 3, 4, 5, 6, 7] (by decide +kernel) rfl⟩, hS.F ht⟩) hS.2.2 dX2_rename_68
      · rw [fa_le] at c_27
        refine lv_aload_n hx hb dX2_rename_56 rfl (lv_at hl 1 rfl) ?_
        refine lv_iload hx hb dX2_rename_57 (lv_at hl 0 rfl) ?_
        have hFc := va_free (wc := [(h0, .inr (1, [.int n0, .ref c1, .ref c2, .ref c3, .ref c4, .ref c5, .ref c6, .ref c7])), (c1, .inl (T 0, 24, .inl f1)), (c2, .inl (T 0, 24, .inl f2)), (c3, .inl (T 0, 24, .inl (upd f3 (x1.toNatClampNeg) x2))), (c4, .inl (T 0, 24, .inl (upd f4 (x1.toNatClampNeg) x3))), (c5, .inl (T 0, 24, .inl g5)), (c6, .inl (T 0, 24, .inl g6)), (c7, .inl (T 0, 24, .inl g7))]) hD hS hA [0, 1, 2, 3, 4, 5, 6, 7] rfl
        refine va_callv (va_runV (As := [.int ii]) (rest := []) ⟨hx, hb, hml, hown, hts⟩ (c_X2_measure l D T ad sa av ta _ h0 n0 c1 c2 c3 c4 c5 c6 c7 f1 f2 (upd f3 (x1.toNatClampNeg) x2) (upd f4 (x1.toNatClampNeg) x3) g5 g6 g7 ii (by omega) hok) (cwV 1 hts gX2_rename_X2_measure rfl rfl rfl hv_X2_measure ⟨Nat.le_of_ble_eq_true rfl, Nat.le_of_ble_eq_true rfl⟩) (pWk_V (q := (RX2, TX2, 8)) (ci := 1) (q0 := 0) hP hE hD hV hS hFc rfl rfl [0, 1, 2, 3, 4, 5, 6, 7] (by decide +kernel) rfl rfl) rfl rfl hl.1 rfl (lv_room (Nat.le_of_ble_eq_true rfl)) dX2_rename_59 ⟨Nat.le_of_ble_eq_true rfl, Nat.le_of_ble_eq_true rfl⟩) hS (fun q _ h => hFc q h) hFc (fun u_29 t H1 locs ht hvm hr_28 hB hz1 hk1 hS => ?_)
        obtain ⟨f_30, f_31, f_32⟩ := u_29
        have hef_30 : ∀ j : Nat, j < 24 → (f_30 j).toInt ≤ 6 := hr_28.1
        have hmqf_30 : mesQ f1 f2 (upd f3 (x1.toNatClampNeg) x2) (upd f4 (x1.toNatClampNeg) x3) g5 g6 g7 ii f_30 f_31 f_32 := hr_28.2
        obtain ⟨hP1, hD1⟩ := hB
        rw [ht] at hP1
        obtain ⟨hP, hD⟩ := va_repl [(h0, .inr (1, [.int n0, .ref c1, .ref c2, .ref c3, .ref c4, .ref c5, .ref c6, .ref c7])), (c1, .inl (T 0, 24, .inl f1)), (c2, .inl (T 0, 24, .inl f2)), (c3, .inl (T 0, 24, .inl (upd f3 (x1.toNatClampNeg) x2))), (c4, .inl (T 0, 24, .inl (upd f4 (x1.toNatClampNeg) x3))), (c5, .inl (T 0, 24, .inl f_30)), (c6, .inl (T 0, 24, .inl f_31)), (c7, .inl (T 0, 24, .inl f_32))] hP hD [0, 1, 2, 3, 4, 5, 6, 7] [0, 1, 2, 3, 4, 5, 6, 7] rfl (by decide +kernel) rfl rfl rfl hk1 hP1
        clear hP1 hD1 hFc
        generalize H1 = H at hP hS ⊢
        obtain ⟨z_33, ez_33⟩ : ∃ y : Int32, y = ii + 1 := ⟨_, rfl⟩
        refine lv_iinc (v := z_33) (lv' := [(5, .int z_33), (0, .ref h0), (1, .int x1), (2, .int x2), (3, .int x3), (4, .int z_2)]) hx hb dX2_rename_62 hl (k := 0) rfl (by rw [ez_33]; rfl) (by decide +kernel) rfl (fun ls hl => ?_)
        refine lv_goto (tgt := 47) hx hb dX2_rename_65 (by decide +kernel) ?_
        exact ih (z_33, f_30, f_31, f_32) ls _ _ ⟨lv_sub hl [0, 1, 2, 3, 4, 5] rfl, hP.sub [0, 1, 2, 3, 4, 5, 6, 7] rfl, hD.sub [0, 1, 2, 3, 4, 5, 6, 7] (by decide +kernel) rfl, hS, ⟨(by subst_vars; (try dsimp only); rw [inc1 (n := 24) (by omega) (by decide +kernel)]; omega), okC.ends hok hef_30, mes_loop hok (by omega) (by rw [ez_33]; exact inc1 (n := 24) (by omega) (by decide +kernel)) hme hmqf_30⟩⟩ (by subst_vars; (try dsimp only); rw [inc1 (n := 24) (by omega) (by decide +kernel)]; omega)
end
section
/-- whether c and d may be named where kind K stands behind x3 of them -/
abbrev mayP (K : Nat) (x1 x2 x3 : Int32) : Prop := ((1 ≤ (nmT K).toInt → 0 ≤ x1.toInt ∧ x1.toInt < x3.toInt) ∧ (¬ 1 ≤ (nmT K).toInt → x1.toInt = 0)) ∧ ((nmT K).toInt = 2 → 0 ≤ x2.toInt ∧ x2.toInt < x3.toInt) ∧ (¬ (nmT K).toInt = 2 → x2.toInt = 0)
theorem dX7_mayName_0 : decode cX7_mayName 0 = .ok (.aload_n 0, 1) := by decide +kernel
theorem dX7_mayName_1 : decode cX7_mayName 1 = .ok (.getfield 70, 3) := by decide +kernel
theorem dX7_mayName_10 : decode cX7_mayName 10 = .ok (.iload_n 3, 1) := by decide +kernel
theorem dX7_mayName_11 : decode cX7_mayName 11 = .ok (.iconst 1, 1) := by decide +kernel
theorem dX7_mayName_12 : decode cX7_mayName 12 = .ok (.isub, 1) := by decide +kernel
theorem dX7_mayName_13 : decode cX7_mayName 13 = .ok (.invokestatic 79, 3) := by decide +kernel
theorem dX7_mayName_16 : decode cX7_mayName 16 = .ok (.goto 12, 3) := by decide +kernel
theorem dX7_mayName_19 : decode cX7_mayName 19 = .ok (.iload_n 1, 1) := by decide +kernel
theorem dX7_mayName_20 : decode cX7_mayName 20 = .ok (.ifCond .ne 7, 3) := by decide +kernel
theorem dX7_mayName_23 : decode cX7_mayName 23 = .ok (.iconst 1, 1) := by decide +kernel
theorem dX7_mayName_24 : decode cX7_mayName 24 = .ok (.goto 4, 3) := by decide +kernel
theorem dX7_mayName_27 : decode cX7_mayName 27 = .ok (.iconst 0, 1) := by decide +kernel
theorem dX7_mayName_28 : decode cX7_mayName 28 = .ok (.istore 4, 2) := by decide +kernel
theorem dX7_mayName_30 : decode cX7_mayName 30 = .ok (.aload_n 0, 1) := by decide +kernel
theorem dX7_mayName_31 : decode cX7_mayName 31 = .ok (.getfield 70, 3) := by decide +kernel
theorem dX7_mayName_34 : decode cX7_mayName 34 = .ok (.iconst 2, 1) := by decide +kernel
theorem dX7_mayName_35 : decode cX7_mayName 35 = .ok (.if_icmp .ne 14, 3) := by decide +kernel
theorem dX7_mayName_38 : decode cX7_mayName 38 = .ok (.iload_n 2, 1) := by decide +kernel
theorem dX7_mayName_39 : decode cX7_mayName 39 = .ok (.iconst 0, 1) := by decide +kernel
theorem dX7_mayName_4 : decode cX7_mayName 4 = .ok (.iconst 1, 1) := by decide +kernel
theorem dX7_mayName_40 : decode cX7_mayName 40 = .ok (.iload_n 3, 1) := by decide +kernel
theorem dX7_mayName_41 : decode cX7_mayName 41 = .ok (.iconst 1, 1) := by decide +kernel
theorem dX7_mayName_42 : decode cX7_mayName 42 = .ok (.isub, 1) := by decide +kernel
theorem dX7_mayName_43 : decode cX7_mayName 43 = .ok (.invokestatic 79, 3) := by decide +kernel
theorem dX7_mayName_46 : decode cX7_mayName 46 = .ok (.goto 12, 3) := by decide +kernel
theorem dX7_mayName_49 : decode cX7_mayName 49 = .ok (.iload_n 2, 1) := by decide +kernel
theorem dX7_mayName_5 : decode cX7_mayName 5 = .ok (.if_icmp .lt 14, 3) := by decide +kernel
theorem dX7_mayName_50 : decode cX7_mayName 50 = .ok (.ifCond .ne 7, 3) := by decide +kernel
theorem dX7_mayName_53 : decode cX7_mayName 53 = .ok (.iconst 1, 1) := by decide +kernel
theorem dX7_mayName_54 : decode cX7_mayName 54 = .ok (.goto 4, 3) := by decide +kernel
theorem dX7_mayName_57 : decode cX7_mayName 57 = .ok (.iconst 0, 1) := by decide +kernel
theorem dX7_mayName_58 : decode cX7_mayName 58 = .ok (.istore 5, 2) := by decide +kernel
theorem dX7_mayName_60 : decode cX7_mayName 60 = .ok (.iload 4, 2) := by decide +kernel
theorem dX7_mayName_62 : decode cX7_mayName 62 = .ok (.ifCond .eq 12, 3) := by decide +kernel
theorem dX7_mayName_65 : decode cX7_mayName 65 = .ok (.iload 5, 2) := by decide +kernel
theorem dX7_mayName_67 : decode cX7_mayName 67 = .ok (.ifCond .eq 7, 3) := by decide +kernel
theorem dX7_mayName_70 : decode cX7_mayName 70 = .ok (.iconst 1, 1) := by decide +kernel
theorem dX7_mayName_71 : decode cX7_mayName 71 = .ok (.goto 4, 3) := by decide +kernel
theorem dX7_mayName_74 : decode cX7_mayName 74 = .ok (.iconst 0, 1) := by decide +kernel
theorem dX7_mayName_75 : decode cX7_mayName 75 = .ok (.ireturn, 1) := by decide +kernel
theorem dX7_mayName_8 : decode cX7_mayName 8 = .ok (.iload_n 1, 1) := by decide +kernel
theorem dX7_mayName_9 : decode cX7_mayName 9 = .ok (.iconst 0, 1) := by decide +kernel
set_option maxRecDepth 20000 in
theorem ggX7_mayName_X12_within : GoodIn wsX7_mayName wsX12_within := goodIn_r _ [4] rfl (by decide +kernel)
set_option maxRecDepth 20000 in
theorem gX7_mayName_X12_within_n79 : GoodIn wsX7_mayName (wsX12_within) := ggX7_mayName_X12_within
set_option maxHeartbeats 4000000 in
set_option maxRecDepth 100000 in
theorem c_X7_mayName (l : Launch) (D : va_G) (T : Nat → ClassId) (ad sa av : Nat → Nat) (ta : Nat) (K : Nat) (x1 : Int32) (x2 : Int32) (x3 : Int32) (hi9 : K < 13) (h3 : -100 ≤ x3.toInt) : Met l yX7_mayName wsX7_mayName ({ frames := 1, cells := 0, slots := 0, locals := 22 }) (pRk [.ref (ad K), .int x1, .int x2, .int x3] D T [] ad sa av ta) (vp_Si (fun r => r = if ((1 ≤ (nmT K).toInt → 0 ≤ x1.toInt ∧ x1.toInt < x3.toInt) ∧ (¬ 1 ≤ (nmT K).toInt → x1.toInt = 0)) ∧ ((nmT K).toInt = 2 → 0 ≤ x2.toInt ∧ x2.toInt < x3.toInt) ∧ (¬ (nmT K).toInt = 2 → x2.toInt = 0) then 1 else 0)) 0 0 (fun _ => False) := by
  refine Met.ofW (cc := cX7_mayName) (maxL := 6) (ret := (some .boolean)) (by decide +kernel) rfl ?_
  intro p e s m args below meth c s₁ B hml hv
  obtain ⟨rfl, hP, hE, hV⟩ := hv
  have hS : va_S (fun _ => False) s.heap s.heap [] := va_S.rf
  have hx := B.exec
  have hb := B.bytes
  have hr := B.returns
  have hts := atoms_spec (ws := wsX7_mayName) B.pre
  have hown : s.vm.findClass RX7 = some m.cls := findClass_of_methodNamed B.named
  have hlocks := B.notSynchronized
  have hP : va_P D vwCl [] s.heap := hP
  have hl := lv_entry ([.ref (ad K), .int x1, .int x2, .int x3]) (n := 6) (Nat.le_of_ble_eq_true rfl)
  rw [lg_entry_eq]
  generalize (lg_sl ([.ref (ad K), .int x1, .int x2, .int x3]) ++ List.replicate (6 - (lg_sl ([.ref (ad K), .int x1, .int x2, .int x3])).length) Slot.unset).toArray = ls at hl ⊢
  have hl : lv_has ls 6 [(0, .ref (ad K)), (1, .int x1), (2, .int x2), (3, .int x3)] := hl
  have hnmK := nmT_in K
  have hd3 := dec1 h3
  refine lv_aload_n hx hb dX7_mayName_0 rfl (lv_at hl 0 rfl) ?_
  refine va_getE (i := K) hx hb hV.1.1 hi9 hS hown (q := kdQ "names" [0, 0, 1, 1, 1, 2, 2, 2, 1, 2, 1, 1, 2]) (List.mem_of_getElem? (i := 0) rfl) (hts (.fieldLink RX7 70 "ClauseBook$Kind" "names" "I") (List.mem_of_getElem? (i := 1) rfl)) (fun _ h9 => h9) dX7_mayName_1 ?_
  refine W.eq (g2 := F0 m 4 ls [.int (nmT K)]) rfl ?_
  refine lv_iconst (v := 1) hx hb dX7_mayName_4 (by decide +kernel) ?_
  refine lv_icmp_lt (tgt := 19) hx hb dX7_mayName_5 (by decide +kernel) (fun c_1 => ?_) (fun c_1 => ?_)
  · rw [fa_lt] at c_1
    try rw [ti_1] at c_1
    refine lv_iload_n hx hb dX7_mayName_19 rfl (lv_at hl 1 rfl) ?_
    refine lv_if_ne (tgt := 27) hx hb dX7_mayName_20 (by decide +kernel) (fun c_2 => ?_) (fun c_2 => ?_)
    · rw [fa_eq] at c_2
      try rw [ti_0] at c_2
      refine lv_iconst (v := 0) hx hb dX7_mayName_27 (by decide +kernel) ?_
      refine lv_istore (lv' := [(4, .int 0), (0, .ref (ad K)), (1, .int x1), (2, .int x2), (3, .int x3)]) hx hb dX7_mayName_28 hl (by decide +kernel) rfl (fun ls hl => ?_)
      refine lv_aload_n hx hb dX7_mayName_30 rfl (lv_at hl 1 rfl) ?_
      refine va_getE (i := K) hx hb hV.1.1 hi9 hS hown (q := kdQ "names" [0, 0, 1, 1, 1, 2, 2, 2, 1, 2, 1, 1, 2]) (List.mem_of_getElem? (i := 0) rfl) (hts (.fieldLink RX7 70 "ClauseBook$Kind" "names" "I") (List.mem_of_getElem? (i := 1) rfl)) (fun _ h9 => h9) dX7_mayName_31 ?_
      refine W.eq (g2 := F0 m 34 ls [.int (nmT K)]) rfl ?_
      refine lv_iconst (v := 2) hx hb dX7_mayName_34 (by decide +kernel) ?_
      refine lv_icmp_ne (tgt := 49) hx hb dX7_mayName_35 (by decide +kernel) (fun c_3 => ?_) (fun c_3 => ?_)
      · rw [fa_eq] at c_3
        try rw [ti_2] at c_3
        refine lv_iload_n hx hb dX7_mayName_49 rfl (lv_at hl 3 rfl) ?_
        refine lv_if_ne (tgt := 57) hx hb dX7_mayName_50 (by decide +kernel) (fun c_4 => ?_) (fun c_4 => ?_)
        · rw [fa_eq] at c_4
          try rw [ti_0] at c_4
          refine lv_iconst (v := 0) hx hb dX7_mayName_57 (by decide +kernel) ?_
          refine lv_istore (lv' := [(5, .int 0), (4, .int 0), (0, .ref (ad K)), (1, .int x1), (2, .int x2), (3, .int x3)]) hx hb dX7_mayName_58 hl (by decide +kernel) rfl (fun ls hl => ?_)
          refine lv_iload hx hb dX7_mayName_60 (lv_at hl 1 rfl) ?_
          refine lv_if_eq (tgt := 74) hx hb dX7_mayName_62 (by decide +kernel) (fun _ => ?_) (fun c9 => absurd c9 (by decide +kernel))
          refine lv_iconst (v := 0) hx hb dX7_mayName_74 (by decide +kernel) ?_
          exact W.zret hx hb hr rfl (fun t ht hW => ⟨_, rfl, (by exact (if_neg (fun ⟨⟨hM1, hM2⟩, hM3, hM4⟩ => by first | (have h9 := hM2 (by clear hM1 hM2 hM3 hM4; omega); clear hM1 hM2 hM3 hM4; omega) | (have h9 := hM4 (by clear hM1 hM2 hM3 hM4; omega); clear hM1 hM2 hM3 hM4; omega) | (have h9 := hM1 (by clear hM1 hM2 hM3 hM4; omega); clear hM1 hM2 hM3 hM4; omega) | (have h9 := hM3 (by clear hM1 hM2 hM3 hM4; omega); clear hM1 hM2 hM3 hM4; omega))).symm), ht⟩) (fun _ h => by cases h) dX7_mayName_75
        · rw [fa_eq] at c_4
          try rw [ti_0] at c_4
          refine lv_iconst (v := 1) hx hb dX7_mayName_53 (by decide +kernel) ?_
          refine lv_goto (tgt := 58) hx hb dX7_mayName_54 (by decide +kernel) ?_
          refine lv_istore (lv' := [(5, .int 1), (4, .int 0), (0, .ref (ad K)), (1, .int x1), (2, .int x2), (3, .int x3)]) hx hb dX7_mayName_58 hl (by decide +kernel) rfl (fun ls hl => ?_)
          refine lv_iload hx hb dX7_mayName_60 (lv_at hl 1 rfl) ?_
          refine lv_if_eq (tgt := 74) hx hb dX7_mayName_62 (by decide +kernel) (fun _ => ?_) (fun c9 => absurd c9 (by decide +kernel))
          refine lv_iconst (v := 0) hx hb dX7_mayName_74 (by decide +kernel) ?_
          exact W.zret hx hb hr rfl (fun t ht hW => ⟨_, rfl, (by exact (if_neg (fun ⟨⟨hM1, hM2⟩, hM3, hM4⟩ => by first | (have h9 := hM2 (by clear hM1 hM2 hM3 hM4; omega); clear hM1 hM2 hM3 hM4; omega) | (have h9 := hM4 (by clear hM1 hM2 hM3 hM4; omega); clear hM1 hM2 hM3 hM4; omega) | (have h9 := hM1 (by clear hM1 hM2 hM3 hM4; omega); clear hM1 hM2 hM3 hM4; omega) | (have h9 := hM3 (by clear hM1 hM2 hM3 hM4; omega); clear hM1 hM2 hM3 hM4; omega))).symm), ht⟩) (fun _ h => by cases h) dX7_mayName_75
      · rw [fa_eq] at c_3
        try rw [ti_2] at c_3
        refine lv_iload_n hx hb dX7_mayName_38 rfl (lv_at hl 3 rfl) ?_
        refine lv_iconst (v := 0) hx hb dX7_mayName_39 (by decide +kernel) ?_
        refine lv_iload_n hx hb dX7_mayName_40 rfl (lv_at hl 4 rfl) ?_
        refine lv_iconst (v := 1) hx hb dX7_mayName_41 (by decide +kernel) ?_
        refine lv_isub hx hb dX7_mayName_42 ?_
        refine vp_callSi (va_Run.run (va_runSN (As := [.int x2, .int 0, .int (x3 - 1)]) (rest := []) ⟨hx, hb, hml, hown, hts⟩ (c_X12_within l D T x2 0 (x3 - 1) 0 ((x3 - 1)).toInt (by decide +kernel) rfl) ⟨(va_cnB 3 hts gX7_mayName_X12_within_n79 rfl rfl rfl (hE.2.1 (RX7, 79, yX12_within) (List.mem_of_getElem? (i := 6) rfl)) (hts (.initialized RX12) (List.mem_of_getElem? (i := 3) rfl)) hs_X12_within ⟨Nat.le_of_ble_eq_true rfl, Nat.le_of_ble_eq_true rfl⟩), (hts (.static yX12_within) (List.mem_of_getElem? (i := 2) rfl)), trivial⟩ (pR_S hP hE [] rfl) rfl rfl hl.1 rfl (lv_room (Nat.le_of_ble_eq_true rfl)) dX7_mayName_43 ⟨Nat.le_of_ble_eq_true rfl, Nat.le_of_ble_eq_true rfl⟩)) (fun r_5 hr_5 => ?_)
        rcases bool_post hr_5 with ⟨c_6, rfl⟩ | ⟨c_6, rfl⟩
        · refine lv_goto (tgt := 58) hx hb dX7_mayName_46 (by decide +kernel) ?_
          refine lv_istore (lv' := [(5, .int 1), (4, .int 0), (0, .ref (ad K)), (1, .int x1), (2, .int x2), (3, .int x3)]) hx hb dX7_mayName_58 hl (by decide +kernel) rfl (fun ls hl => ?_)
          refine lv_iload hx hb dX7_mayName_60 (lv_at hl 1 rfl) ?_
          refine lv_if_eq (tgt := 74) hx hb dX7_mayName_62 (by decide +kernel) (fun _ => ?_) (fun c9 => absurd c9 (by decide +kernel))
          refine lv_iconst (v := 0) hx hb dX7_mayName_74 (by decide +kernel) ?_
          exact W.zret hx hb hr rfl (fun t ht hW => ⟨_, rfl, (by exact (if_neg (fun ⟨⟨hM1, hM2⟩, hM3, hM4⟩ => by first | (have h9 := hM2 (by clear hM1 hM2 hM3 hM4; omega); clear hM1 hM2 hM3 hM4; omega) | (have h9 := hM4 (by clear hM1 hM2 hM3 hM4; omega); clear hM1 hM2 hM3 hM4; omega) | (have h9 := hM1 (by clear hM1 hM2 hM3 hM4; omega); clear hM1 hM2 hM3 hM4; omega) | (have h9 := hM3 (by clear hM1 hM2 hM3 hM4; omega); clear hM1 hM2 hM3 hM4; omega))).symm), ht⟩) (fun _ h => by cases h) dX7_mayName_75
        · refine lv_goto (tgt := 58) hx hb dX7_mayName_46 (by decide +kernel) ?_
          refine lv_istore (lv' := [(5, .int 0), (4, .int 0), (0, .ref (ad K)), (1, .int x1), (2, .int x2), (3, .int x3)]) hx hb dX7_mayName_58 hl (by decide +kernel) rfl (fun ls hl => ?_)
          refine lv_iload hx hb dX7_mayName_60 (lv_at hl 1 rfl) ?_
          refine lv_if_eq (tgt := 74) hx hb dX7_mayName_62 (by decide +kernel) (fun _ => ?_) (fun c9 => absurd c9 (by decide +kernel))
          refine lv_iconst (v := 0) hx hb dX7_mayName_74 (by decide +kernel) ?_
          exact W.zret hx hb hr rfl (fun t ht hW => ⟨_, rfl, (by exact (if_neg (fun ⟨⟨hM1, hM2⟩, hM3, hM4⟩ => by first | (have h9 := hM2 (by clear hM1 hM2 hM3 hM4; omega); clear hM1 hM2 hM3 hM4; omega) | (have h9 := hM4 (by clear hM1 hM2 hM3 hM4; omega); clear hM1 hM2 hM3 hM4; omega) | (have h9 := hM1 (by clear hM1 hM2 hM3 hM4; omega); clear hM1 hM2 hM3 hM4; omega) | (have h9 := hM3 (by clear hM1 hM2 hM3 hM4; omega); clear hM1 hM2 hM3 hM4; omega))).symm), ht⟩) (fun _ h => by cases h) dX7_mayName_75
    · rw [fa_eq] at c_2
      try rw [ti_0] at c_2
      refine lv_iconst (v := 1) hx hb dX7_mayName_23 (by decide +kernel) ?_
      refine lv_goto (tgt := 28) hx hb dX7_mayName_24 (by decide +kernel) ?_
      refine lv_istore (lv' := [(4, .int 1), (0, .ref (ad K)), (1, .int x1), (2, .int x2), (3, .int x3)]) hx hb dX7_mayName_28 hl (by decide +kernel) rfl (fun ls hl => ?_)
      refine lv_aload_n hx hb dX7_mayName_30 rfl (lv_at hl 1 rfl) ?_
      refine va_getE (i := K) hx hb hV.1.1 hi9 hS hown (q := kdQ "names" [0, 0, 1, 1, 1, 2, 2, 2, 1, 2, 1, 1, 2]) (List.mem_of_getElem? (i := 0) rfl) (hts (.fieldLink RX7 70 "ClauseBook$Kind" "names" "I") (List.mem_of_getElem? (i := 1) rfl)) (fun _ h9 => h9) dX7_mayName_31 ?_
      refine W.eq (g2 := F0 m 34 ls [.int (nmT K)]) rfl ?_
      refine lv_iconst (v := 2) hx hb dX7_mayName_34 (by decide +kernel) ?_
      refine lv_icmp_ne (tgt := 49) hx hb dX7_mayName_35 (by decide +kernel) (fun c_7 => ?_) (fun c_7 => ?_)
      · rw [fa_eq] at c_7
        try rw [ti_2] at c_7
        refine lv_iload_n hx hb dX7_mayName_49 rfl (lv_at hl 3 rfl) ?_
        refine lv_if_ne (tgt := 57) hx hb dX7_mayName_50 (by decide +kernel) (fun c_8 => ?_) (fun c_8 => ?_)
        · rw [fa_eq] at c_8
          try rw [ti_0] at c_8
          refine lv_iconst (v := 0) hx hb dX7_mayName_57 (by decide +kernel) ?_
          refine lv_istore (lv' := [(5, .int 0), (4, .int 1), (0, .ref (ad K)), (1, .int x1), (2, .int x2), (3, .int x3)]) hx hb dX7_mayName_58 hl (by decide +kernel) rfl (fun ls hl => ?_)
          refine lv_iload hx hb dX7_mayName_60 (lv_at hl 1 rfl) ?_
          refine lv_if_eq (tgt := 74) hx hb dX7_mayName_62 (by decide +kernel) (fun c9 => absurd c9 (by decide +kernel)) (fun _ => ?_)
          refine lv_iload hx hb dX7_mayName_65 (lv_at hl 0 rfl) ?_
          refine lv_if_eq (tgt := 74) hx hb dX7_mayName_67 (by decide +kernel) (fun _ => ?_) (fun c9 => absurd c9 (by decide +kernel))
          refine lv_iconst (v := 0) hx hb dX7_mayName_74 (by decide +kernel) ?_
          exact W.zret hx hb hr rfl (fun t ht hW => ⟨_, rfl, (by exact (if_neg (fun ⟨⟨hM1, hM2⟩, hM3, hM4⟩ => by first | (have h9 := hM2 (by clear hM1 hM2 hM3 hM4; omega); clear hM1 hM2 hM3 hM4; omega) | (have h9 := hM4 (by clear hM1 hM2 hM3 hM4; omega); clear hM1 hM2 hM3 hM4; omega) | (have h9 := hM1 (by clear hM1 hM2 hM3 hM4; omega); clear hM1 hM2 hM3 hM4; omega) | (have h9 := hM3 (by clear hM1 hM2 hM3 hM4; omega); clear hM1 hM2 hM3 hM4; omega))).symm), ht⟩) (fun _ h => by cases h) dX7_mayName_75
        · rw [fa_eq] at c_8
          try rw [ti_0] at c_8
          refine lv_iconst (v := 1) hx hb dX7_mayName_53 (by decide +kernel) ?_
          refine lv_goto (tgt := 58) hx hb dX7_mayName_54 (by decide +kernel) ?_
          refine lv_istore (lv' := [(5, .int 1), (4, .int 1), (0, .ref (ad K)), (1, .int x1), (2, .int x2), (3, .int x3)]) hx hb dX7_mayName_58 hl (by decide +kernel) rfl (fun ls hl => ?_)
          refine lv_iload hx hb dX7_mayName_60 (lv_at hl 1 rfl) ?_
          refine lv_if_eq (tgt := 74) hx hb dX7_mayName_62 (by decide +kernel) (fun c9 => absurd c9 (by decide +kernel)) (fun _ => ?_)
          refine lv_iload hx hb dX7_mayName_65 (lv_at hl 0 rfl) ?_
          refine lv_if_eq (tgt := 74) hx hb dX7_mayName_67 (by decide +kernel) (fun c9 => absurd c9 (by decide +kernel)) (fun _ => ?_)
          refine lv_iconst (v := 1) hx hb dX7_mayName_70 (by decide +kernel) ?_
          refine lv_goto (tgt := 75) hx hb dX7_mayName_71 (by decide +kernel) ?_
          exact W.zret hx hb hr rfl (fun t ht hW => ⟨_, rfl, (by exact (if_pos ⟨⟨fun a => by omega, fun a => by omega⟩, fun a => by omega, fun a => by omega⟩).symm), ht⟩) (fun _ h => by cases h) dX7_mayName_75
      · rw [fa_eq] at c_7
        try rw [ti_2] at c_7
        refine lv_iload_n hx hb dX7_mayName_38 rfl (lv_at hl 3 rfl) ?_
        refine lv_iconst (v := 0) hx hb dX7_mayName_39 (by decide +kernel) ?_
        refine lv_iload_n hx hb dX7_mayName_40 rfl (lv_at hl 4 rfl) ?_
        refine lv_iconst (v := 1) hx hb dX7_mayName_41 (by decide +kernel) ?_
        refine lv_isub hx hb dX7_mayName_42 ?_
        refine vp_callSi (va_Run.run (va_runSN (As := [.int x2, .int 0, .int (x3 - 1)]) (rest := []) ⟨hx, hb, hml, hown, hts⟩ (c_X12_within l D T x2 0 (x3 - 1) 0 ((x3 - 1)).toInt (by decide +kernel) rfl) ⟨(va_cnB 3 hts gX7_mayName_X12_within_n79 rfl rfl rfl (hE.2.1 (RX7, 79, yX12_within) (List.mem_of_getElem? (i := 6) rfl)) (hts (.initialized RX12) (List.mem_of_getElem? (i := 3) rfl)) hs_X12_within ⟨Nat.le_of_ble_eq_true rfl, Nat.le_of_ble_eq_true rfl⟩), (hts (.static yX12_within) (List.mem_of_getElem? (i := 2) rfl)), trivial⟩ (pR_S hP hE [] rfl) rfl rfl hl.1 rfl (lv_room (Nat.le_of_ble_eq_true rfl)) dX7_mayName_43 ⟨Nat.le_of_ble_eq_true rfl, Nat.le_of_ble_eq_true rfl⟩)) (fun r_9 hr_9 => ?_)
        rcases bool_post hr_9 with ⟨c_10, rfl⟩ | ⟨c_10, rfl⟩
        · refine lv_goto (tgt := 58) hx hb dX7_mayName_46 (by decide +kernel) ?_
          refine lv_istore (lv' := [(5, .int 1), (4, .int 1), (0, .ref (ad K)), (1, .int x1), (2, .int x2), (3, .int x3)]) hx hb dX7_mayName_58 hl (by decide +kernel) rfl (fun ls hl => ?_)
          refine lv_iload hx hb dX7_mayName_60 (lv_at hl 1 rfl) ?_
          refine lv_if_eq (tgt := 74) hx hb dX7_mayName_62 (by decide +kernel) (fun c9 => absurd c9 (by decide +kernel)) (fun _ => ?_)
          refine lv_iload hx hb dX7_mayName_65 (lv_at hl 0 rfl) ?_
          refine lv_if_eq (tgt := 74) hx hb dX7_mayName_67 (by decide +kernel) (fun c9 => absurd c9 (by decide +kernel)) (fun _ => ?_)
          refine lv_iconst (v := 1) hx hb dX7_mayName_70 (by decide +kernel) ?_
          refine lv_goto (tgt := 75) hx hb dX7_mayName_71 (by decide +kernel) ?_
          exact W.zret hx hb hr rfl (fun t ht hW => ⟨_, rfl, (by exact (if_pos ⟨⟨fun a => by omega, fun a => by omega⟩, fun a => by omega, fun a => by omega⟩).symm), ht⟩) (fun _ h => by cases h) dX7_mayName_75
        · refine lv_goto (tgt := 58) hx hb dX7_mayName_46 (by decide +kernel) ?_
          refine lv_istore (lv' := [(5, .int 0), (4, .int 1), (0, .ref (ad K)), (1, .int x1), (2, .int x2), (3, .int x3)]) hx hb dX7_mayName_58 hl (by decide +kernel) rfl (fun ls hl => ?_)
          refine lv_iload hx hb dX7_mayName_60 (lv_at hl 1 rfl) ?_
          refine lv_if_eq (tgt := 74) hx hb dX7_mayName_62 (by decide +kernel) (fun c9 => absurd c9 (by decide +kernel)) (fun _ => ?_)
          refine lv_iload hx hb dX7_mayName_65 (lv_at hl 0 rfl) ?_
          refine lv_if_eq (tgt := 74) hx hb dX7_mayName_67 (by decide +kernel) (fun _ => ?_) (fun c9 => absurd c9 (by decide +kernel))
          refine lv_iconst (v := 0) hx hb dX7_mayName_74 (by decide +kernel) ?_
          exact W.zret hx hb hr rfl (fun t ht hW => ⟨_, rfl, (by exact (if_neg (fun ⟨⟨hM1, hM2⟩, hM3, hM4⟩ => by first | (have h9 := hM2 (by clear hM1 hM2 hM3 hM4; omega); clear hM1 hM2 hM3 hM4; omega) | (have h9 := hM4 (by clear hM1 hM2 hM3 hM4; omega); clear hM1 hM2 hM3 hM4; omega) | (have h9 := hM1 (by clear hM1 hM2 hM3 hM4; omega); clear hM1 hM2 hM3 hM4; omega) | (have h9 := hM3 (by clear hM1 hM2 hM3 hM4; omega); clear hM1 hM2 hM3 hM4; omega))).symm), ht⟩) (fun _ h => by cases h) dX7_mayName_75
  · rw [fa_lt] at c_1
    try rw [ti_1] at c_1
    refine lv_iload_n hx hb dX7_mayName_8 rfl (lv_at hl 1 rfl) ?_
    refine lv_iconst (v := 0) hx hb dX7_mayName_9 (by decide +kernel) ?_
    refine lv_iload_n hx hb dX7_mayName_10 rfl (lv_at hl 3 rfl) ?_
    refine lv_iconst (v := 1) hx hb dX7_mayName_11 (by decide +kernel) ?_
    refine lv_isub hx hb dX7_mayName_12 ?_
    refine vp_callSi (va_Run.run (va_runSN (As := [.int x1, .int 0, .int (x3 - 1)]) (rest := []) ⟨hx, hb, hml, hown, hts⟩ (c_X12_within l D T x1 0 (x3 - 1) 0 ((x3 - 1)).toInt (by decide +kernel) rfl) ⟨(va_cnB 3 hts gX7_mayName_X12_within_n79 rfl rfl rfl (hE.2.1 (RX7, 79, yX12_within) (List.mem_of_getElem? (i := 6) rfl)) (hts (.initialized RX12) (List.mem_of_getElem? (i := 3) rfl)) hs_X12_within ⟨Nat.le_of_ble_eq_true rfl, Nat.le_of_ble_eq_true rfl⟩), (hts (.static yX12_within) (List.mem_of_getElem? (i := 2) rfl)), trivial⟩ (pR_S hP hE [] rfl) rfl rfl hl.1 rfl (lv_room (Nat.le_of_ble_eq_true rfl)) dX7_mayName_13 ⟨Nat.le_of_ble_eq_true rfl, Nat.le_of_ble_eq_true rfl⟩)) (fun r_11 hr_11 => ?_)
    rcases bool_post hr_11 with ⟨c_12, rfl⟩ | ⟨c_12, rfl⟩
    · refine lv_goto (tgt := 28) hx hb dX7_mayName_16 (by decide +kernel) ?_
      refine lv_istore (lv' := [(4, .int 1), (0, .ref (ad K)), (1, .int x1), (2, .int x2), (3, .int x3)]) hx hb dX7_mayName_28 hl (by decide +kernel) rfl (fun ls hl => ?_)
      refine lv_aload_n hx hb dX7_mayName_30 rfl (lv_at hl 1 rfl) ?_
      refine va_getE (i := K) hx hb hV.1.1 hi9 hS hown (q := kdQ "names" [0, 0, 1, 1, 1, 2, 2, 2, 1, 2, 1, 1, 2]) (List.mem_of_getElem? (i := 0) rfl) (hts (.fieldLink RX7 70 "ClauseBook$Kind" "names" "I") (List.mem_of_getElem? (i := 1) rfl)) (fun _ h9 => h9) dX7_mayName_31 ?_
      refine W.eq (g2 := F0 m 34 ls [.int (nmT K)]) rfl ?_
      refine lv_iconst (v := 2) hx hb dX7_mayName_34 (by decide +kernel) ?_
      refine lv_icmp_ne (tgt := 49) hx hb dX7_mayName_35 (by decide +kernel) (fun c_13 => ?_) (fun c_13 => ?_)
      · rw [fa_eq] at c_13
        try rw [ti_2] at c_13
        refine lv_iload_n hx hb dX7_mayName_49 rfl (lv_at hl 3 rfl) ?_
        refine lv_if_ne (tgt := 57) hx hb dX7_mayName_50 (by decide +kernel) (fun c_14 => ?_) (fun c_14 => ?_)
        · rw [fa_eq] at c_14
          try rw [ti_0] at c_14
          refine lv_iconst (v := 0) hx hb dX7_mayName_57 (by decide +kernel) ?_
          refine lv_istore (lv' := [(5, .int 0), (4, .int 1), (0, .ref (ad K)), (1, .int x1), (2, .int x2), (3, .int x3)]) hx hb dX7_mayName_58 hl (by decide +kernel) rfl (fun ls hl => ?_)
          refine lv_iload hx hb dX7_mayName_60 (lv_at hl 1 rfl) ?_
          refine lv_if_eq (tgt := 74) hx hb dX7_mayName_62 (by decide +kernel) (fun c9 => absurd c9 (by decide +kernel)) (fun _ => ?_)
          refine lv_iload hx hb dX7_mayName_65 (lv_at hl 0 rfl) ?_
          refine lv_if_eq (tgt := 74) hx hb dX7_mayName_67 (by decide +kernel) (fun _ => ?_) (fun c9 => absurd c9 (by decide +kernel))
          refine lv_iconst (v := 0) hx hb dX7_mayName_74 (by decide +kernel) ?_
          exact W.zret hx hb hr rfl (fun t ht hW => ⟨_, rfl, (by exact (if_neg (fun ⟨⟨hM1, hM2⟩, hM3, hM4⟩ => by first | (have h9 := hM2 (by clear hM1 hM2 hM3 hM4; omega); clear hM1 hM2 hM3 hM4; omega) | (have h9 := hM4 (by clear hM1 hM2 hM3 hM4; omega); clear hM1 hM2 hM3 hM4; omega) | (have h9 := hM1 (by clear hM1 hM2 hM3 hM4; omega); clear hM1 hM2 hM3 hM4; omega) | (have h9 := hM3 (by clear hM1 hM2 hM3 hM4; omega); clear hM1 hM2 hM3 hM4; omega))).symm), ht⟩) (fun _ h => by cases h) dX7_mayName_75
        · rw [fa_eq] at c_14
          try rw [ti_0] at c_14
          refine lv_iconst (v := 1) hx hb dX7_mayName_53 (by decide +kernel) ?_
          refine lv_goto (tgt := 58) hx hb dX7_mayName_54 (by decide +kernel) ?_
          refine lv_istore (lv' := [(5, .int 1), (4, .int 1), (0, .ref (ad K)), (1, .int x1), (2, .int x2), (3, .int x3)]) hx hb dX7_mayName_58 hl (by decide +kernel) rfl (fun ls hl => ?_)
          refine lv_iload hx hb dX7_mayName_60 (lv_at hl 1 rfl) ?_
          refine lv_if_eq (tgt := 74) hx hb dX7_mayName_62 (by decide +kernel) (fun c9 => absurd c9 (by decide +kernel)) (fun _ => ?_)
          refine lv_iload hx hb dX7_mayName_65 (lv_at hl 0 rfl) ?_
          refine lv_if_eq (tgt := 74) hx hb dX7_mayName_67 (by decide +kernel) (fun c9 => absurd c9 (by decide +kernel)) (fun _ => ?_)
          refine lv_iconst (v := 1) hx hb dX7_mayName_70 (by decide +kernel) ?_
          refine lv_goto (tgt := 75) hx hb dX7_mayName_71 (by decide +kernel) ?_
          exact W.zret hx hb hr rfl (fun t ht hW => ⟨_, rfl, (by exact (if_pos ⟨⟨fun a => by omega, fun a => by omega⟩, fun a => by omega, fun a => by omega⟩).symm), ht⟩) (fun _ h => by cases h) dX7_mayName_75
      · rw [fa_eq] at c_13
        try rw [ti_2] at c_13
        refine lv_iload_n hx hb dX7_mayName_38 rfl (lv_at hl 3 rfl) ?_
        refine lv_iconst (v := 0) hx hb dX7_mayName_39 (by decide +kernel) ?_
        refine lv_iload_n hx hb dX7_mayName_40 rfl (lv_at hl 4 rfl) ?_
        refine lv_iconst (v := 1) hx hb dX7_mayName_41 (by decide +kernel) ?_
        refine lv_isub hx hb dX7_mayName_42 ?_
        refine vp_callSi (va_Run.run (va_runSN (As := [.int x2, .int 0, .int (x3 - 1)]) (rest := []) ⟨hx, hb, hml, hown, hts⟩ (c_X12_within l D T x2 0 (x3 - 1) 0 ((x3 - 1)).toInt (by decide +kernel) rfl) ⟨(va_cnB 3 hts gX7_mayName_X12_within_n79 rfl rfl rfl (hE.2.1 (RX7, 79, yX12_within) (List.mem_of_getElem? (i := 6) rfl)) (hts (.initialized RX12) (List.mem_of_getElem? (i := 3) rfl)) hs_X12_within ⟨Nat.le_of_ble_eq_true rfl, Nat.le_of_ble_eq_true rfl⟩), (hts (.static yX12_within) (List.mem_of_getElem? (i := 2) rfl)), trivial⟩ (pR_S hP hE [] rfl) rfl rfl hl.1 rfl (lv_room (Nat.le_of_ble_eq_true rfl)) dX7_mayName_43 ⟨Nat.le_of_ble_eq_true rfl, Nat.le_of_ble_eq_true rfl⟩)) (fun r_15 hr_15 => ?_)
        rcases bool_post hr_15 with ⟨c_16, rfl⟩ | ⟨c_16, rfl⟩
        · refine lv_goto (tgt := 58) hx hb dX7_mayName_46 (by decide +kernel) ?_
          refine lv_istore (lv' := [(5, .int 1), (4, .int 1), (0, .ref (ad K)), (1, .int x1), (2, .int x2), (3, .int x3)]) hx hb dX7_mayName_58 hl (by decide +kernel) rfl (fun ls hl => ?_)
          refine lv_iload hx hb dX7_mayName_60 (lv_at hl 1 rfl) ?_
          refine lv_if_eq (tgt := 74) hx hb dX7_mayName_62 (by decide +kernel) (fun c9 => absurd c9 (by decide +kernel)) (fun _ => ?_)
          refine lv_iload hx hb dX7_mayName_65 (lv_at hl 0 rfl) ?_
          refine lv_if_eq (tgt := 74) hx hb dX7_mayName_67 (by decide +kernel) (fun c9 => absurd c9 (by decide +kernel)) (fun _ => ?_)
          refine lv_iconst (v := 1) hx hb dX7_mayName_70 (by decide +kernel) ?_
          refine lv_goto (tgt := 75) hx hb dX7_mayName_71 (by decide +kernel) ?_
          exact W.zret hx hb hr rfl (fun t ht hW => ⟨_, rfl, (by exact (if_pos ⟨⟨fun a => by omega, fun a => by omega⟩, fun a => by omega, fun a => by omega⟩).symm), ht⟩) (fun _ h => by cases h) dX7_mayName_75
        · refine lv_goto (tgt := 58) hx hb dX7_mayName_46 (by decide +kernel) ?_
          refine lv_istore (lv' := [(5, .int 0), (4, .int 1), (0, .ref (ad K)), (1, .int x1), (2, .int x2), (3, .int x3)]) hx hb dX7_mayName_58 hl (by decide +kernel) rfl (fun ls hl => ?_)
          refine lv_iload hx hb dX7_mayName_60 (lv_at hl 1 rfl) ?_
          refine lv_if_eq (tgt := 74) hx hb dX7_mayName_62 (by decide +kernel) (fun c9 => absurd c9 (by decide +kernel)) (fun _ => ?_)
          refine lv_iload hx hb dX7_mayName_65 (lv_at hl 0 rfl) ?_
          refine lv_if_eq (tgt := 74) hx hb dX7_mayName_67 (by decide +kernel) (fun _ => ?_) (fun c9 => absurd c9 (by decide +kernel))
          refine lv_iconst (v := 0) hx hb dX7_mayName_74 (by decide +kernel) ?_
          exact W.zret hx hb hr rfl (fun t ht hW => ⟨_, rfl, (by exact (if_neg (fun ⟨⟨hM1, hM2⟩, hM3, hM4⟩ => by first | (have h9 := hM2 (by clear hM1 hM2 hM3 hM4; omega); clear hM1 hM2 hM3 hM4; omega) | (have h9 := hM4 (by clear hM1 hM2 hM3 hM4; omega); clear hM1 hM2 hM3 hM4; omega) | (have h9 := hM1 (by clear hM1 hM2 hM3 hM4; omega); clear hM1 hM2 hM3 hM4; omega) | (have h9 := hM3 (by clear hM1 hM2 hM3 hM4; omega); clear hM1 hM2 hM3 hM4; omega))).symm), ht⟩) (fun _ h => by cases h) dX7_mayName_75
    · refine lv_goto (tgt := 28) hx hb dX7_mayName_16 (by decide +kernel) ?_
      refine lv_istore (lv' := [(4, .int 0), (0, .ref (ad K)), (1, .int x1), (2, .int x2), (3, .int x3)]) hx hb dX7_mayName_28 hl (by decide +kernel) rfl (fun ls hl => ?_)
      refine lv_aload_n hx hb dX7_mayName_30 rfl (lv_at hl 1 rfl) ?_
      refine va_getE (i := K) hx hb hV.1.1 hi9 hS hown (q := kdQ "names" [0, 0, 1, 1, 1, 2, 2, 2, 1, 2, 1, 1, 2]) (List.mem_of_getElem? (i := 0) rfl) (hts (.fieldLink RX7 70 "ClauseBook$Kind" "names" "I") (List.mem_of_getElem? (i := 1) rfl)) (fun _ h9 => h9) dX7_mayName_31 ?_
      refine W.eq (g2 := F0 m 34 ls [.int (nmT K)]) rfl ?_
      refine lv_iconst (v := 2) hx hb dX7_mayName_34 (by decide +kernel) ?_
      refine lv_icmp_ne (tgt := 49) hx hb dX7_mayName_35 (by decide +kernel) (fun c_17 => ?_) (fun c_17 => ?_)
      · rw [fa_eq] at c_17
        try rw [ti_2] at c_17
        refine lv_iload_n hx hb dX7_mayName_49 rfl (lv_at hl 3 rfl) ?_
        refine lv_if_ne (tgt := 57) hx hb dX7_mayName_50 (by decide +kernel) (fun c_18 => ?_) (fun c_18 => ?_)
        · rw [fa_eq] at c_18
          try rw [ti_0] at c_18
          refine lv_iconst (v := 0) hx hb dX7_mayName_57 (by decide +kernel) ?_
          refine lv_istore (lv' := [(5, .int 0), (4, .int 0), (0, .ref (ad K)), (1, .int x1), (2, .int x2), (3, .int x3)]) hx hb dX7_mayName_58 hl (by decide +kernel) rfl (fun ls hl => ?_)
          refine lv_iload hx hb dX7_mayName_60 (lv_at hl 1 rfl) ?_
          refine lv_if_eq (tgt := 74) hx hb dX7_mayName_62 (by decide +kernel) (fun _ => ?_) (fun c9 => absurd c9 (by decide +kernel))
          refine lv_iconst (v := 0) hx hb dX7_mayName_74 (by decide +kernel) ?_
          exact W.zret hx hb hr rfl (fun t ht hW => ⟨_, rfl, (by exact (if_neg (fun ⟨⟨hM1, hM2⟩, hM3, hM4⟩ => by first | (have h9 := hM2 (by clear hM1 hM2 hM3 hM4; omega); clear hM1 hM2 hM3 hM4; omega) | (have h9 := hM4 (by clear hM1 hM2 hM3 hM4; omega); clear hM1 hM2 hM3 hM4; omega) | (have h9 := hM1 (by clear hM1 hM2 hM3 hM4; omega); clear hM1 hM2 hM3 hM4; omega) | (have h9 := hM3 (by clear hM1 hM2 hM3 hM4; omega); clear hM1 hM2 hM3 hM4; omega))).symm), ht⟩) (fun _ h => by cases h) dX7_mayName_75
        · rw [fa_eq] at c_18
          try rw [ti_0] at c_18
          refine lv_iconst (v := 1) hx hb dX7_mayName_53 (by decide +kernel) ?_
          refine lv_goto (tgt := 58) hx hb dX7_mayName_54 (by decide +kernel) ?_
          refine lv_istore (lv' := [(5, .int 1), (4, .int 0), (0, .ref (ad K)), (1, .int x1), (2, .int x2), (3, .int x3)]) hx hb dX7_mayName_58 hl (by decide +kernel) rfl (fun ls hl => ?_)
          refine lv_iload hx hb dX7_mayName_60 (lv_at hl 1 rfl) ?_
          refine lv_if_eq (tgt := 74) hx hb dX7_mayName_62 (by decide +kernel) (fun _ => ?_) (fun c9 => absurd c9 (by decide +kernel))
          refine lv_iconst (v := 0) hx hb dX7_mayName_74 (by decide +kernel) ?_
          exact W.zret hx hb hr rfl (fun t ht hW => ⟨_, rfl, (by exact (if_neg (fun ⟨⟨hM1, hM2⟩, hM3, hM4⟩ => by first | (have h9 := hM2 (by clear hM1 hM2 hM3 hM4; omega); clear hM1 hM2 hM3 hM4; omega) | (have h9 := hM4 (by clear hM1 hM2 hM3 hM4; omega); clear hM1 hM2 hM3 hM4; omega) | (have h9 := hM1 (by clear hM1 hM2 hM3 hM4; omega); clear hM1 hM2 hM3 hM4; omega) | (have h9 := hM3 (by clear hM1 hM2 hM3 hM4; omega); clear hM1 hM2 hM3 hM4; omega))).symm), ht⟩) (fun _ h => by cases h) dX7_mayName_75
      · rw [fa_eq] at c_17
        try rw [ti_2] at c_17
        refine lv_iload_n hx hb dX7_mayName_38 rfl (lv_at hl 3 rfl) ?_
        refine lv_iconst (v := 0) hx hb dX7_mayName_39 (by decide +kernel) ?_
        refine lv_iload_n hx hb dX7_mayName_40 rfl (lv_at hl 4 rfl) ?_
        refine lv_iconst (v := 1) hx hb dX7_mayName_41 (by decide +kernel) ?_
        refine lv_isub hx hb dX7_mayName_42 ?_
        refine vp_callSi (va_Run.run (va_runSN (As := [.int x2, .int 0, .int (x3 - 1)]) (rest := []) ⟨hx, hb, hml, hown, hts⟩ (c_X12_within l D T x2 0 (x3 - 1) 0 ((x3 - 1)).toInt (by decide +kernel) rfl) ⟨(va_cnB 3 hts gX7_mayName_X12_within_n79 rfl rfl rfl (hE.2.1 (RX7, 79, yX12_within) (List.mem_of_getElem? (i := 6) rfl)) (hts (.initialized RX12) (List.mem_of_getElem? (i := 3) rfl)) hs_X12_within ⟨Nat.le_of_ble_eq_true rfl, Nat.le_of_ble_eq_true rfl⟩), (hts (.static yX12_within) (List.mem_of_getElem? (i := 2) rfl)), trivial⟩ (pR_S hP hE [] rfl) rfl rfl hl.1 rfl (lv_room (Nat.le_of_ble_eq_true rfl)) dX7_mayName_43 ⟨Nat.le_of_ble_eq_true rfl, Nat.le_of_ble_eq_true rfl⟩)) (fun r_19 hr_19 => ?_)
        rcases bool_post hr_19 with ⟨c_20, rfl⟩ | ⟨c_20, rfl⟩
        · refine lv_goto (tgt := 58) hx hb dX7_mayName_46 (by decide +kernel) ?_
          refine lv_istore (lv' := [(5, .int 1), (4, .int 0), (0, .ref (ad K)), (1, .int x1), (2, .int x2), (3, .int x3)]) hx hb dX7_mayName_58 hl (by decide +kernel) rfl (fun ls hl => ?_)
          refine lv_iload hx hb dX7_mayName_60 (lv_at hl 1 rfl) ?_
          refine lv_if_eq (tgt := 74) hx hb dX7_mayName_62 (by decide +kernel) (fun _ => ?_) (fun c9 => absurd c9 (by decide +kernel))
          refine lv_iconst (v := 0) hx hb dX7_mayName_74 (by decide +kernel) ?_
          exact W.zret hx hb hr rfl (fun t ht hW => ⟨_, rfl, (by exact (if_neg (fun ⟨⟨hM1, hM2⟩, hM3, hM4⟩ => by first | (have h9 := hM2 (by clear hM1 hM2 hM3 hM4; omega); clear hM1 hM2 hM3 hM4; omega) | (have h9 := hM4 (by clear hM1 hM2 hM3 hM4; omega); clear hM1 hM2 hM3 hM4; omega) | (have h9 := hM1 (by clear hM1 hM2 hM3 hM4; omega); clear hM1 hM2 hM3 hM4; omega) | (have h9 := hM3 (by clear hM1 hM2 hM3 hM4; omega); clear hM1 hM2 hM3 hM4; omega))).symm), ht⟩) (fun _ h => by cases h) dX7_mayName_75
        · refine lv_goto (tgt := 58) hx hb dX7_mayName_46 (by decide +kernel) ?_
          refine lv_istore (lv' := [(5, .int 0), (4, .int 0), (0, .ref (ad K)), (1, .int x1), (2, .int x2), (3, .int x3)]) hx hb dX7_mayName_58 hl (by decide +kernel) rfl (fun ls hl => ?_)
          refine lv_iload hx hb dX7_mayName_60 (lv_at hl 1 rfl) ?_
          refine lv_if_eq (tgt := 74) hx hb dX7_mayName_62 (by decide +kernel) (fun _ => ?_) (fun c9 => absurd c9 (by decide +kernel))
          refine lv_iconst (v := 0) hx hb dX7_mayName_74 (by decide +kernel) ?_
          exact W.zret hx hb hr rfl (fun t ht hW => ⟨_, rfl, (by exact (if_neg (fun ⟨⟨hM1, hM2⟩, hM3, hM4⟩ => by first | (have h9 := hM2 (by clear hM1 hM2 hM3 hM4; omega); clear hM1 hM2 hM3 hM4; omega) | (have h9 := hM4 (by clear hM1 hM2 hM3 hM4; omega); clear hM1 hM2 hM3 hM4; omega) | (have h9 := hM1 (by clear hM1 hM2 hM3 hM4; omega); clear hM1 hM2 hM3 hM4; omega) | (have h9 := hM3 (by clear hM1 hM2 hM3 hM4; omega); clear hM1 hM2 hM3 hM4; omega))).symm), ht⟩) (fun _ h => by cases h) dX7_mayName_75
end
section
theorem okC.up {x k : Int32} {fk fc fd fe : Nat → Int32} (h : okC fk fc fd fe) (hk : 0 ≤ k.toInt ∧ k.toInt ≤ 12) : okW x.toNatClampNeg (upd fk x.toNatClampNeg k) fc fd fe := by
  intro j hj
  have h9 := h j hj
  by_cases hjx : j = x.toNatClampNeg
  · refine ⟨?_, fun a => absurd hjx a, fun a => absurd hjx a, h9.2.2.2⟩
    simp only [upd, if_pos hjx]; exact hk
  · simp only [upd, if_neg hjx]
    exact ⟨h9.1, fun _ => h9.2.1, fun _ => h9.2.2.1, h9.2.2.2⟩
theorem upd_at {f : Nat → Int32} {k : Nat} {v : Int32} : upd f k v k = v := by simp only [upd, if_pos]
def lsT (k : Nat) : Int32 := ([0, 0, 0, -9, 0, 0, 0, 0, 0, 0, 0, 0, -99] : List Int32).getD k 0
def msT (k : Nat) : Int32 := ([0, 0, 0, 9, 0, 0, 0, 0, 6, 0, 0, 0, 99] : List Int32).getD k 0
/-- how many clauses are still awaited behind the first k words, less 1 -/
def smT (f : Nat → Int32) : Nat → Int
  | 0 => 0
  | k + 1 => smT f k + (nmT (f k).toNatClampNeg).toInt - 1
theorem tn1 {x y : Int32} (h : 0 ≤ x.toInt) (e : y.toInt = x.toInt + 1) : y.toNatClampNeg = x.toNatClampNeg + 1 := by
  have h1 := tn h
  have h2 := tn (x := y) (by omega)
  omega
/-! what a text is, whoever reads it -/
/-- from a on as long as P holds, no further than n -/
def rnP (P : Nat → Prop) (n a b : Nat) : Prop := (a ≤ b ∧ b ≤ n) ∧ (∀ i : Nat, a ≤ i → i < b → P i) ∧ (b < n → ¬ P b)
theorem rnP_uniq {P : Nat → Prop} {n a b c : Nat} (h : rnP P n a b) (g : rnP P n a c) : b = c := by
  obtain ⟨h1, h3, h4⟩ := h
  obtain ⟨g1, g3, g4⟩ := g
  rcases Nat.lt_trichotomy b c with e | e | e
  · exact absurd (g3 b h1.1 e) (h4 (by omega))
  · exact e
  · exact absurd (h3 c g1.1 e) (g4 (by omega))
theorem rnP_pre {P : Nat → Prop} {n a b c : Nat} (hab : a ≤ b) (h : ∀ i : Nat, a ≤ i → i < b → P i) (g : rnP P n b c) : rnP P n a c := by
  obtain ⟨g1, g3, g4⟩ := g
  refine ⟨⟨by omega, g1.2⟩, fun i h1 h2 => ?_, g4⟩
  rcases Nat.lt_or_ge i b with e | e
  · exact h i h1 e
  · exact g3 i e h2
theorem rn_step {P : Nat → Prop} {a : Nat} {i i' : Int32} (h0 : 0 ≤ i.toInt) (hi : i'.toInt = i.toInt + 1) (h : ∀ j : Nat, a ≤ j → j < i.toNatClampNeg → P j) (hp : P i.toNatClampNeg) : ∀ j : Nat, a ≤ j → j < i'.toNatClampNeg → P j := by
  intro j h1 h2
  have e := tn1 h0 hi
  by_cases hj : j = i.toNatClampNeg
  · rw [hj]; exact hp
  · exact h j h1 (by omega)
theorem rn_end {P : Nat → Prop} {a i n : Int32} (ha : 0 ≤ a.toInt) (hai : a.toInt ≤ i.toInt) (hin : i.toInt ≤ n.toInt) (h : ∀ j : Nat, a.toNatClampNeg ≤ j → j < i.toNatClampNeg → P j) (he : i.toInt < n.toInt → ¬ P i.toNatClampNeg) : rnP P n.toNatClampNeg a.toNatClampNeg i.toNatClampNeg := by
  have h1 := tn ha
  have h2 := tn (x := i) (by omega)
  have h3 := tn (x := n) (by omega)
  exact ⟨by omega, h, fun e => he (by omega)⟩
def isBl (f : Nat → Int32) (i : Nat) : Prop := (f i).toInt = 32
def isLe (f : Nat → Int32) (i : Nat) : Prop := 97 ≤ (f i).toInt ∧ (f i).toInt ≤ 122
def isDi (f : Nat → Int32) (i : Nat) : Prop := 48 ≤ (f i).toInt ∧ (f i).toInt ≤ 57
/-- from a up to b stands the word of kind k -/
def wordK (f : Nat → Int32) (a b k : Nat) : Prop := k < 13 ∧ b = a + ksL.getD k 0 ∧ ∀ j : Nat, j < ksL.getD k 0 → f (a + j) = (ksB.getD k []).getD j 0
theorem ks_apart : ∀ x y : Fin 13, x.val = y.val ∨ ksL.getD x.val 0 ≠ ksL.getD y.val 0 ∨ ∃ j : Fin 8, j.val < ksL.getD x.val 0 ∧ (ksB.getD x.val []).getD j.val 0 ≠ (ksB.getD y.val []).getD j.val 0 := by decide +kernel
theorem wordK_uniq {f : Nat → Int32} {a b k k' : Nat} (h : wordK f a b k) (g : wordK f a b k') : k = k' := by
  obtain ⟨h1, h2, h3⟩ := h
  obtain ⟨g1, g2, g3⟩ := g
  rcases ks_apart ⟨k, h1⟩ ⟨k', g1⟩ with e | e | ⟨j, e1, e2⟩
  · exact e
  · exact absurd (show ksL.getD k 0 = ksL.getD k' 0 by omega) e
  · have e1 : j.val < ksL.getD k 0 := e1
    exact absurd ((h3 j.val e1).symm.trans (g3 j.val (by omega))) e2
theorem ks_long : ∀ x : Fin 13, 3 ≤ ksL.getD x.val 0 ∧ ksL.getD x.val 0 ≤ 7 := by decide
/-- what digits tell -/
def dvl (f : Nat → Int32) (s : Nat) : Nat → Int
  | 0 => 0
  | k + 1 => 10 * dvl f s k + ((f (s + k)).toInt - 48)
theorem dvl_pos {f : Nat → Int32} {s : Nat} : ∀ k : Nat, (∀ j : Nat, s ≤ j → j < s + k → isDi f j) → 0 ≤ dvl f s k
  | 0, _ => Int.le_refl 0
  | k + 1, h => by
    have h1 := dvl_pos k (fun j a b => h j a (by omega))
    have h2 := h (s + k) (by omega) (by omega)
    unfold isDi at h2
    show 0 ≤ 10 * dvl f s k + ((f (s + k)).toInt - 48)
    omega
/-- where the digits begin -/
def sgS (f : Nat → Int32) (a : Nat) : Nat := if (f a).toInt = 45 then a + 1 else a
/-- at a stands a number that kind k takes, up to e -/
def numK (f : Nat → Int32) (n a k e : Nat) (v : Int32) : Prop := rnP (isDi f) n (sgS f a) e ∧ sgS f a < e ∧ dvl f (sgS f a) (e - sgS f a) ≤ 99 ∧ v.toInt = (if (f a).toInt = 45 then - dvl f (sgS f a) (e - sgS f a) else dvl f (sgS f a) (e - sgS f a)) ∧ (lsT k).toInt ≤ v.toInt ∧ v.toInt ≤ (msT k).toInt
theorem numK_uniq {f : Nat → Int32} {n a k e e' : Nat} {v v' : Int32} (h : numK f n a k e v) (g : numK f n a k e' v') : e = e' ∧ v = v' := by
  obtain ⟨h1, h2, h3, h4, h5⟩ := h
  obtain ⟨g1, g2, g3, g4, g5⟩ := g
  have e1 := rnP_uniq h1 g1
  subst e1
  refine ⟨rfl, ?_⟩
  rw [fa_eq, h4, g4]
/-- one word with what belongs to it, read from a on, where rd have been read and op are awaited -/
def stpK (f : Nat → Int32) (n : Nat) (room : Int) (a rd : Nat) (op : Int) (k v : Int32) (a' : Nat) : Prop := ∃ p e : Nat, (rnP (isBl f) n a p ∧ rnP (isLe f) n p e) ∧ (0 ≤ k.toInt ∧ k.toInt ≤ 12) ∧ wordK f p e k.toNatClampNeg ∧ (rd : Int) + 1 + (op + (nmT k.toNatClampNeg).toInt - 1) ≤ room ∧ ((lsT k.toNatClampNeg = msT k.toNatClampNeg ∧ v = 0 ∧ a' = e) ∨ (lsT k.toNatClampNeg ≠ msT k.toNatClampNeg ∧ ∃ p2 : Nat, rnP (isBl f) n e p2 ∧ numK f n p2 k.toNatClampNeg a' v))
/-- what can't stand there is at q -/
def stpF (f : Nat → Int32) (n : Nat) (room : Int) (a rd : Nat) (op : Int) (q : Nat) : Prop := ∃ p e : Nat, (rnP (isBl f) n a p ∧ rnP (isLe f) n p e) ∧ ((q = p ∧ ∀ k : Nat, ¬ wordK f p e k) ∨ ∃ k : Nat, wordK f p e k ∧ ((q = p ∧ room < (rd : Int) + 1 + (op + (nmT k).toInt - 1)) ∨ ((rd : Int) + 1 + (op + (nmT k).toInt - 1) ≤ room ∧ lsT k ≠ msT k ∧ rnP (isBl f) n e q ∧ ∀ (e2 : Nat) (v : Int32), ¬ numK f n q k e2 v)))
theorem stpK_uniq {f : Nat → Int32} {n : Nat} {room : Int} {a rd : Nat} {op : Int} {k v k' v' : Int32} {b b' : Nat} (h : stpK f n room a rd op k v b) (g : stpK f n room a rd op k' v' b') : k = k' ∧ v = v' ∧ b = b' := by
  obtain ⟨p, e, ⟨h1, h2⟩, h3, h4, h5, h6⟩ := h
  obtain ⟨p', e', ⟨g1, g2⟩, g3, g4, g5, g6⟩ := g
  have e1 := rnP_uniq h1 g1
  subst e1
  have e2 := rnP_uniq h2 g2
  subst e2
  have e3 := wordK_uniq h4 g4
  have e4 : k = k' := by
    have a1 := tn h3.1
    have a2 := tn g3.1
    rw [fa_eq]
    omega
  subst e4
  refine ⟨rfl, ?_⟩
  rcases h6 with ⟨h7, h8, h9⟩ | ⟨h7, q, h8, h9⟩
  · rcases g6 with ⟨g7, g8, g9⟩ | ⟨g7, q', g8, g9⟩
    · exact ⟨h8.trans g8.symm, h9.trans g9.symm⟩
    · exact absurd h7 g7
  · rcases g6 with ⟨g7, g8, g9⟩ | ⟨g7, q', g8, g9⟩
    · exact absurd g7 h7
    · have e5 := rnP_uniq h8 g8
      subst e5
      have e6 := numK_uniq h9 g9
      exact ⟨e6.2, e6.1⟩
theorem stpK_F {f : Nat → Int32} {n : Nat} {room : Int} {a rd : Nat} {op : Int} {k v : Int32} {b q : Nat} (h : stpK f n room a rd op k v b) (g : stpF f n room a rd op q) : False := by
  obtain ⟨p, e, ⟨h1, h2⟩, h3, h4, h5, h6⟩ := h
  obtain ⟨p', e', ⟨g1, g2⟩, g3⟩ := g
  have e1 := rnP_uniq h1 g1
  subst e1
  have e2 := rnP_uniq h2 g2
  subst e2
  rcases g3 with ⟨_, g4⟩ | ⟨k', g4, g5⟩
  · exact g4 _ h4
  · have e3 := wordK_uniq h4 g4
    subst e3
    rcases g5 with ⟨_, g6⟩ | ⟨g6, g7, g8, g9⟩
    · omega
    · rcases h6 with ⟨h7, _⟩ | ⟨h7, q', h8, h9⟩
      · exact g7 h7
      · have e4 := rnP_uniq h8 g8
        subst e4
        exact g9 _ _ h9
theorem stpF_uniq {f : Nat → Int32} {n : Nat} {room : Int} {a rd : Nat} {op : Int} {q q' : Nat} (h : stpF f n room a rd op q) (g : stpF f n room a rd op q') : q = q' := by
  obtain ⟨p, e, ⟨h1, h2⟩, h3⟩ := h
  obtain ⟨p', e', ⟨g1, g2⟩, g3⟩ := g
  have e1 := rnP_uniq h1 g1
  subst e1
  have e2 := rnP_uniq h2 g2
  subst e2
  rcases h3 with ⟨h4, h5⟩ | ⟨k, h4, h5⟩
  · rcases g3 with ⟨g4, g5⟩ | ⟨k', g4, g5⟩
    · exact h4.trans g4.symm
    · exact absurd g4 (h5 _)
  · rcases g3 with ⟨g4, g5⟩ | ⟨k', g4, g5⟩
    · exact absurd h4 (g5 _)
    · have e3 := wordK_uniq h4 g4
      subst e3
      rcases h5 with ⟨h6, h7⟩ | ⟨h6, h7, h8, h9⟩
      · rcases g5 with ⟨g6, g7⟩ | ⟨g6, g7, g8, g9⟩
        · exact h6.trans g6.symm
        · exfalso; omega
      · rcases g5 with ⟨g6, g7⟩ | ⟨g6, g7, g8, g9⟩
        · exfalso; omega
        · exact rnP_uniq h8 g8
/-- m words have been read, K and V, and a is where the last one ended -/
def pthT (f : Nat → Int32) (n : Nat) (room : Int) (K V : Nat → Int32) : Nat → Nat → Prop
  | 0, a => a = 0
  | m + 1, a => ∃ a0 : Nat, pthT f n room K V m a0 ∧ 0 ≤ smT K m ∧ stpK f n room a0 m (1 + smT K m) (K m) (V m) a
theorem smT_ext {K K' : Nat → Int32} : ∀ m : Nat, (∀ j : Nat, j < m → K j = K' j) → smT K m = smT K' m
  | 0, _ => rfl
  | m + 1, h => by
    show smT K m + (nmT (K m).toNatClampNeg).toInt - 1 = smT K' m + (nmT (K' m).toNatClampNeg).toInt - 1
    rw [smT_ext m (fun j hj => h j (by omega)), h m (by omega)]
theorem pthT_ext {f : Nat → Int32} {n : Nat} {room : Int} {K V K' V' : Nat → Int32} : ∀ (m a : Nat), (∀ j : Nat, j < m → K j = K' j ∧ V j = V' j) → pthT f n room K V m a → pthT f n room K' V' m a
  | 0, _, _, h => h
  | m + 1, a, e, h => by
    obtain ⟨a0, h1, h2, h3⟩ := h
    have e1 := smT_ext m (fun j hj => (e j (by omega)).1)
    have e2 := e m (by omega)
    refine ⟨a0, pthT_ext m a0 (fun j hj => e j (by omega)) h1, by rw [← e1]; exact h2, ?_⟩
    rw [← e1, ← e2.1, ← e2.2]
    exact h3
theorem pthT_uniq {f : Nat → Int32} {n : Nat} {room : Int} {K V K' V' : Nat → Int32} : ∀ (m a a' : Nat), pthT f n room K V m a → pthT f n room K' V' m a' → a = a' ∧ ∀ j : Nat, j < m → K j = K' j ∧ V j = V' j
  | 0, a, a', h, g => ⟨Eq.trans (show a = 0 from h) (show a' = 0 from g).symm, fun j hj => absurd hj (Nat.not_lt_zero j)⟩
  | m + 1, a, a', h, g => by
    obtain ⟨a0, h1, h2, h3⟩ := h
    obtain ⟨b0, g1, g2, g3⟩ := g
    have ih := pthT_uniq m a0 b0 h1 g1
    have e1 := smT_ext m (fun j hj => (ih.2 j hj).1)
    rw [← e1, ← ih.1] at g3
    have e2 := stpK_uniq h3 g3
    refine ⟨e2.2.2, fun j hj => ?_⟩
    by_cases hm : j = m
    · subst hm; exact ⟨e2.1, e2.2.1⟩
    · exact ih.2 j (by omega)
theorem pthT_cut {f : Nat → Int32} {n : Nat} {room : Int} {K V : Nat → Int32} : ∀ (d m a : Nat), pthT f n room K V (m + d) a → ∃ b : Nat, pthT f n room K V m b
  | 0, _, a, h => ⟨a, h⟩
  | d + 1, m, a, h => by
    obtain ⟨a0, h1, _⟩ := (show pthT f n room K V ((m + d) + 1) a from h)
    exact pthT_cut d m a0 h1
theorem pthT_more {f : Nat → Int32} {n : Nat} {room : Int} {K V K' V' : Nat → Int32} {m m' a a' : Nat} (h : pthT f n room K V m a) (g : pthT f n room K' V' m' a') (hm : m < m') : 0 ≤ smT K m ∧ ∃ (k v : Int32) (b : Nat), stpK f n room a m (1 + smT K m) k v b := by
  obtain ⟨b, hb⟩ := pthT_cut (m' - (m + 1)) (m + 1) a' (by rw [show m + 1 + (m' - (m + 1)) = m' by omega]; exact g)
  obtain ⟨a0, h1, h2, h3⟩ := hb
  have e := pthT_uniq m a a0 h h1
  have e1 := smT_ext m (fun j hj => (e.2 j hj).1)
  rw [e1]
  exact ⟨h2, K' m, V' m, b, by rw [e.1]; exact h3⟩
/-- the text tells one clause, by m words -/
def txtK (f : Nat → Int32) (n : Nat) (room : Int) (K V : Nat → Int32) (m : Nat) : Prop := ∃ a : Nat, pthT f n room K V m a ∧ smT K m = -1 ∧ rnP (isBl f) n a n
/-- it has a fault at q -/
def txtF (f : Nat → Int32) (n : Nat) (room : Int) (q : Nat) : Prop := ∃ (K V : Nat → Int32) (m a : Nat), pthT f n room K V m a ∧ ((0 ≤ smT K m ∧ stpF f n room a m (1 + smT K m) q) ∨ (smT K m = -1 ∧ rnP (isBl f) n a q ∧ q < n))
theorem txtK_uniq {f : Nat → Int32} {n : Nat} {room : Int} {K V K' V' : Nat → Int32} {m m' : Nat} (h : txtK f n room K V m) (g : txtK f n room K' V' m') : m = m' ∧ ∀ j : Nat, j < m → K j = K' j ∧ V j = V' j := by
  obtain ⟨a, h1, h2, h3⟩ := h
  obtain ⟨b, g1, g2, g3⟩ := g
  rcases Nat.lt_trichotomy m m' with e | e | e
  · have := (pthT_more h1 g1 e).1; omega
  · subst e; exact ⟨rfl, (pthT_uniq m a b h1 g1).2⟩
  · have := (pthT_more g1 h1 e).1; omega
theorem txtK_F {f : Nat → Int32} {n : Nat} {room : Int} {K V : Nat → Int32} {m q : Nat} (h : txtK f n room K V m) (g : txtF f n room q) : False := by
  obtain ⟨a, h1, h2, h3⟩ := h
  obtain ⟨K', V', m', b, g1, g2⟩ := g
  rcases Nat.lt_trichotomy m m' with e | e | e
  · have := (pthT_more h1 g1 e).1; omega
  · subst e
    have e2 := pthT_uniq m a b h1 g1
    have e3 := smT_ext m (fun j hj => (e2.2 j hj).1)
    rcases g2 with ⟨g3, _⟩ | ⟨g3, g4, g5⟩
    · omega
    · rw [← e2.1] at g4
      have := rnP_uniq h3 g4
      omega
  · obtain ⟨k1, k, v, b', k2⟩ := pthT_more g1 h1 e
    rcases g2 with ⟨_, g4⟩ | ⟨g3, _⟩
    · exact stpK_F k2 g4
    · omega
theorem txtF_uniq {f : Nat → Int32} {n : Nat} {room : Int} {q q' : Nat} (h : txtF f n room q) (g : txtF f n room q') : q = q' := by
  obtain ⟨K, V, m, a, h1, h2⟩ := h
  obtain ⟨K', V', m', b, g1, g2⟩ := g
  rcases Nat.lt_trichotomy m m' with e | e | e
  · exfalso
    obtain ⟨k1, k, v, b', k2⟩ := pthT_more h1 g1 e
    rcases h2 with ⟨_, h4⟩ | ⟨h3, _⟩
    · exact stpK_F k2 h4
    · omega
  · subst e
    have e2 := pthT_uniq m a b h1 g1
    have e3 := smT_ext m (fun j hj => (e2.2 j hj).1)
    rw [← e3, ← e2.1] at g2
    rcases h2 with ⟨h3, h4⟩ | ⟨h3, h4, h5⟩
    · rcases g2 with ⟨g3, g4⟩ | ⟨g3, g4, g5⟩
      · exact stpF_uniq h4 g4
      · omega
    · rcases g2 with ⟨g3, g4⟩ | ⟨g3, g4, g5⟩
      · omega
      · exact rnP_uniq h4 g4
  · exfalso
    obtain ⟨k1, k, v, b', k2⟩ := pthT_more g1 h1 e
    rcases g2 with ⟨_, g4⟩ | ⟨g3, _⟩
    · exact stpK_F k2 g4
    · omega
theorem txtF_le {f : Nat → Int32} {n : Nat} {room : Int} {q : Nat} (h : txtF f n room q) : q ≤ n := by
  obtain ⟨K, V, m, a, _, h2⟩ := h
  rcases h2 with ⟨_, p, e, ⟨h3, _⟩, h4⟩ | ⟨_, h3, _⟩
  · rcases h4 with ⟨h5, _⟩ | ⟨k, _, ⟨h5, _⟩ | ⟨_, _, h5, _⟩⟩
    · rw [h5]; exact h3.1.2
    · rw [h5]; exact h3.1.2
    · exact h5.1.2
  · exact h3.1.2
/-! the clauses that words tell -/
/-- clauses by number: how many, their kinds, numbers, and what they name -/
abbrev clsA := Nat × (Nat → Int32) × (Nat → Int32) × (Nat → Int32) × (Nat → Int32)
/-- one more -/
def clsP (A : clsA) (k v c d : Int32) : clsA := (A.1 + 1, upd A.2.1 A.1 k, upd A.2.2.1 A.1 v, upd A.2.2.2.1 A.1 c, upd A.2.2.2.2 A.1 d)
/-- the clause of the word at nx: the next word, its number, all clauses -/
def bldF (K V : Nat → Int32) : Nat → Nat → clsA → Nat × Nat × clsA
  | 0, nx, A => (nx, 0, A)
  | t + 1, nx, A =>
    let R1 := if 1 ≤ (nmT (K nx).toNatClampNeg).toInt then bldF K V t (nx + 1) A else (nx + 1, 0, A)
    let R2 := if (nmT (K nx).toNatClampNeg).toInt = 2 then bldF K V t R1.1 R1.2.2 else (R1.1, 0, R1.2.2)
    (R2.1, R2.2.2.1, clsP R2.2.2 (K nx) (V nx) (nI R1.2.1) (nI R2.2.1))
/-- with turns enough -/
def bldR (K V : Nat → Int32) (nx : Nat) (A : clsA) (nx' r : Nat) (A' : clsA) : Prop := ∃ t0 : Nat, ∀ t : Nat, t0 ≤ t → bldF K V t nx A = (nx', r, A')
theorem bldR_uniq {K V : Nat → Int32} {nx n1 n2 r1 r2 : Nat} {A A1 A2 : clsA} (h : bldR K V nx A n1 r1 A1) (g : bldR K V nx A n2 r2 A2) : n1 = n2 ∧ r1 = r2 ∧ A1 = A2 := by
  obtain ⟨t, h⟩ := h
  obtain ⟨t', g⟩ := g
  have e := (h (max t t') (Nat.le_max_left _ _)).symm.trans (g (max t t') (Nat.le_max_right _ _))
  exact ⟨congrArg Prod.fst e, congrArg (fun x => x.2.1) e, congrArg (fun x => x.2.2) e⟩
theorem bldF_local {K V K' V' : Nat → Int32} : ∀ (t nx : Nat) (A : clsA), nx ≤ (bldF K V t nx A).1 ∧ ((∀ j : Nat, nx ≤ j → j < (bldF K V t nx A).1 → K j = K' j ∧ V j = V' j) → bldF K' V' t nx A = bldF K V t nx A)
  | 0, nx, A => ⟨Nat.le_refl nx, fun _ => rfl⟩
  | t + 1, nx, A => by
    obtain ⟨R1, hR1⟩ : ∃ R1 : Nat × Nat × clsA, R1 = if 1 ≤ (nmT (K nx).toNatClampNeg).toInt then bldF K V t (nx + 1) A else (nx + 1, 0, A) := ⟨_, rfl⟩
    obtain ⟨R2, hR2⟩ : ∃ R2 : Nat × Nat × clsA, R2 = if (nmT (K nx).toNatClampNeg).toInt = 2 then bldF K V t R1.1 R1.2.2 else (R1.1, 0, R1.2.2) := ⟨_, rfl⟩
    have e : bldF K V (t + 1) nx A = (R2.1, R2.2.2.1, clsP R2.2.2 (K nx) (V nx) (nI R1.2.1) (nI R2.2.1)) := by rw [hR2, hR1]; rfl
    have i1 := bldF_local (K := K) (V := V) (K' := K') (V' := V') t (nx + 1) A
    have i2 := bldF_local (K := K) (V := V) (K' := K') (V' := V') t R1.1 R1.2.2
    have l1 : nx + 1 ≤ R1.1 := by
      rw [hR1]
      split
      · exact i1.1
      · exact Nat.le_refl _
    have l2 : R1.1 ≤ R2.1 := by
      rw [hR2]
      split
      · exact i2.1
      · exact Nat.le_refl _
    rw [e]
    refine ⟨by show nx ≤ R2.1; omega, fun h => ?_⟩
    have h : ∀ j : Nat, nx ≤ j → j < R2.1 → K j = K' j ∧ V j = V' j := h
    have h0 := h nx (Nat.le_refl nx) (by omega)
    have f1 : (if 1 ≤ (nmT (K' nx).toNatClampNeg).toInt then bldF K' V' t (nx + 1) A else (nx + 1, 0, A)) = R1 := by
      rw [← h0.1, hR1]
      split
      · rename_i c
        rw [if_pos c] at hR1
        exact i1.2 (fun j a b => h j (by omega) (by rw [← hR1] at b; omega))
      · rfl
    have f2 : (if (nmT (K' nx).toNatClampNeg).toInt = 2 then bldF K' V' t R1.1 R1.2.2 else (R1.1, 0, R1.2.2)) = R2 := by
      rw [← h0.1, hR2]
      split
      · rename_i c
        rw [if_pos c] at hR2
        exact i2.2 (fun j a b => h j (by omega) (by rw [← hR2] at b; omega))
      · rfl
    show (_, _, _) = _
    rw [f1, f2, h0.1, h0.2]
theorem bldR_local {K V K' V' : Nat → Int32} {nx nx' r : Nat} {A A' : clsA} (h : bldR K V nx A nx' r A') (e : ∀ j : Nat, nx ≤ j → j < nx' → K j = K' j ∧ V j = V' j) : bldR K' V' nx A nx' r A' := by
  obtain ⟨t0, h⟩ := h
  refine ⟨t0, fun t ht => ?_⟩
  have h1 := h t ht
  rw [(bldF_local (K := K) (V := V) (K' := K') (V' := V') t nx A).2 (by rw [h1]; exact e)]
  exact h1
/-- a word that names none -/
theorem bldR_0 {K V : Nat → Int32} {nx : Nat} {A : clsA} (hn : ¬ 1 ≤ (nmT (K nx).toNatClampNeg).toInt) : bldR K V nx A (nx + 1) A.1 (clsP A (K nx) (V nx) (nI 0) (nI 0)) := by
  refine ⟨1, fun t ht => ?_⟩
  obtain ⟨t, rfl⟩ : ∃ k : Nat, t = k + 1 := ⟨t - 1, by omega⟩
  show (_, _, _) = _
  rw [if_neg hn, if_neg (show ¬ (nmT (K nx).toNatClampNeg).toInt = 2 by omega)]
theorem bldR_1 {K V : Nat → Int32} {nx n1 c : Nat} {A A1 : clsA} (hn : 1 ≤ (nmT (K nx).toNatClampNeg).toInt) (hn2 : ¬ (nmT (K nx).toNatClampNeg).toInt = 2) (h : bldR K V (nx + 1) A n1 c A1) : bldR K V nx A n1 A1.1 (clsP A1 (K nx) (V nx) (nI c) (nI 0)) := by
  obtain ⟨t0, h⟩ := h
  refine ⟨t0 + 1, fun t ht => ?_⟩
  obtain ⟨t, rfl⟩ : ∃ k : Nat, t = k + 1 := ⟨t - 1, by omega⟩
  show (_, _, _) = _
  rw [if_pos hn, if_neg hn2, h t (by omega)]
theorem bldR_2 {K V : Nat → Int32} {nx n1 n2 c d : Nat} {A A1 A2 : clsA} (hn : (nmT (K nx).toNatClampNeg).toInt = 2) (h : bldR K V (nx + 1) A n1 c A1) (g : bldR K V n1 A1 n2 d A2) : bldR K V nx A n2 A2.1 (clsP A2 (K nx) (V nx) (nI c) (nI d)) := by
  obtain ⟨t0, h⟩ := h
  obtain ⟨t1, g⟩ := g
  refine ⟨max t0 t1 + 1, fun t ht => ?_⟩
  have m1 := Nat.le_max_left t0 t1
  have m2 := Nat.le_max_right t0 t1
  obtain ⟨t, rfl⟩ : ∃ k : Nat, t = k + 1 := ⟨t - 1, by omega⟩
  show (_, _, _) = _
  rw [if_pos (show 1 ≤ (nmT (K nx).toNatClampNeg).toInt by omega), if_pos hn, h t (by omega)]
  show (_, _, _) = _
  rw [g t (by omega)]
/-! the class's clauses against clauses by number -/
/-- fc, fd are -1 where none is named -/
def rlC (n : Int32) (fk fn fc fd : Nat → Int32) (A : clsA) : Prop := n.toInt = A.1 ∧ ∀ j : Nat, j < A.1 → fk j = A.2.1 j ∧ fn j = A.2.2.1 j ∧ fc j = (if 1 ≤ (nmT (A.2.1 j).toNatClampNeg).toInt then A.2.2.2.1 j else -1) ∧ fd j = (if (nmT (A.2.1 j).toNatClampNeg).toInt = 2 then A.2.2.2.2 j else -1)
theorem rlC_clamp {n : Int32} {fk fn fc fd : Nat → Int32} {A : clsA} (h : rlC n fk fn fc fd A) : n.toNatClampNeg = A.1 := by
  have h1 := h.1
  have h2 := tn (x := n) (by omega)
  omega
theorem rlC_push {n n' : Int32} {fk fn fc fd : Nat → Int32} {A : clsA} {k v c d : Int32} (h : rlC n fk fn fc fd A) (hn : n'.toInt = n.toInt + 1) : rlC n' (upd fk n.toNatClampNeg k) (upd fn n.toNatClampNeg v) (upd fc n.toNatClampNeg (if 1 ≤ (nmT k.toNatClampNeg).toInt then c else -1)) (upd fd n.toNatClampNeg (if (nmT k.toNatClampNeg).toInt = 2 then d else -1)) (clsP A k v c d) := by
  have h1 := h.1
  have h2 := rlC_clamp h
  rw [h2]
  refine ⟨by show n'.toInt = ((A.1 + 1 : Nat) : Int); omega, fun j hj => ?_⟩
  have hj : j < A.1 + 1 := hj
  show upd fk A.1 k j = upd A.2.1 A.1 k j ∧ upd fn A.1 v j = upd A.2.2.1 A.1 v j ∧ upd fc A.1 _ j = (if 1 ≤ (nmT (upd A.2.1 A.1 k j).toNatClampNeg).toInt then upd A.2.2.2.1 A.1 c j else -1) ∧ upd fd A.1 _ j = (if (nmT (upd A.2.1 A.1 k j).toNatClampNeg).toInt = 2 then upd A.2.2.2.2 A.1 d j else -1)
  by_cases e : j = A.1
  · simp only [upd, if_pos e]
    exact ⟨trivial, trivial, trivial, trivial⟩
  · simp only [upd, if_neg e]
    exact h.2 j (by omega)
/-- as clsA after a swap at x -/
def clsS (A : clsA) (x : Nat) (c d : Int32) : clsA := (A.1, A.2.1, A.2.2.1, upd A.2.2.2.1 x c, upd A.2.2.2.2 x d)
theorem rlC_swap {n x : Int32} {fk fn fc fd : Nat → Int32} {A : clsA} {c d : Int32} (h : rlC n fk fn fc fd A) (hx : 0 ≤ x.toInt ∧ x.toInt < n.toInt) : rlC n fk fn (upd fc x.toNatClampNeg (if 1 ≤ (nmT (fk x.toNatClampNeg).toNatClampNeg).toInt then c else -1)) (upd fd x.toNatClampNeg (if (nmT (fk x.toNatClampNeg).toNatClampNeg).toInt = 2 then d else -1)) (clsS A x.toNatClampNeg c d) := by
  refine ⟨h.1, fun j hj => ?_⟩
  have hj : j < A.1 := hj
  have h9 := h.2 j hj
  show fk j = A.2.1 j ∧ fn j = A.2.2.1 j ∧ upd fc x.toNatClampNeg _ j = (if 1 ≤ (nmT (A.2.1 j).toNatClampNeg).toInt then upd A.2.2.2.1 x.toNatClampNeg c j else -1) ∧ upd fd x.toNatClampNeg _ j = (if (nmT (A.2.1 j).toNatClampNeg).toInt = 2 then upd A.2.2.2.2 x.toNatClampNeg d j else -1)
  refine ⟨h9.1, h9.2.1, ?_⟩
  by_cases e : j = x.toNatClampNeg
  · subst e
    simp only [upd, if_pos]
    rw [h9.1]
    exact ⟨rfl, rfl⟩
  · simp only [upd, if_neg e]
    exact h9.2.2
theorem rlC_drop {n n' : Int32} {fk fn fc fd : Nat → Int32} {A : clsA} (h : rlC n fk fn fc fd A) (h1 : 1 ≤ n.toInt) (hn : n'.toInt = n.toInt - 1) : rlC n' fk fn fc fd (A.1 - 1, A.2) := by
  have h0 := h.1
  refine ⟨by show n'.toInt = ((A.1 - 1 : Nat) : Int); omega, fun j hj => ?_⟩
  have hj : j < A.1 - 1 := hj
  exact h.2 j (by omega)
/-- which clause() is taken -/
def clV (n0 k n c d : Int32) : Prop := (0 ≤ k.toInt ∧ k.toInt ≤ 12) ∧ ((lsT k.toNatClampNeg).toInt ≤ n.toInt ∧ n.toInt ≤ (msT k.toNatClampNeg).toInt) ∧ mayP k.toNatClampNeg c d n0
/-- clause(), in the class -/
def clauseC (n0 k n c d r u0 : Int32) (f1 f2 f3 f4 u1 u2 u3 u4 : Nat → Int32) : Prop := (¬ clV n0 k n c d ∧ r.toInt = -2 ∧ (u0 = n0 ∧ u1 = f1 ∧ u2 = f2 ∧ u3 = f3 ∧ u4 = f4)) ∨ (clV n0 k n c d ∧ 24 ≤ n0.toInt ∧ r.toInt = -4 ∧ (u0 = n0 ∧ u1 = f1 ∧ u2 = f2 ∧ u3 = f3 ∧ u4 = f4)) ∨ (clV n0 k n c d ∧ n0.toInt < 24 ∧ r = n0 ∧ u0.toInt = n0.toInt + 1 ∧ u1 = upd f1 n0.toNatClampNeg k ∧ u2 = upd f2 n0.toNatClampNeg n ∧ u3 = upd f3 n0.toNatClampNeg (if 1 ≤ (nmT k.toNatClampNeg).toInt then c else -1) ∧ u4 = upd f4 n0.toNatClampNeg (if (nmT k.toNatClampNeg).toInt = 2 then d else -1))
/-- clause(), in the reference -/
def clauseR (n0 k n c d r u0 : Int32) (f1 f2 f3 f4 u1 u2 u3 u4 : Nat → Int32) : Prop := (¬ clV n0 k n c d ∧ r.toInt = -2 ∧ (u0 = n0 ∧ u1 = f1 ∧ u2 = f2 ∧ u3 = f3 ∧ u4 = f4)) ∨ (clV n0 k n c d ∧ 24 ≤ n0.toInt ∧ r.toInt = -4 ∧ (u0 = n0 ∧ u1 = f1 ∧ u2 = f2 ∧ u3 = f3 ∧ u4 = f4)) ∨ (clV n0 k n c d ∧ n0.toInt < 24 ∧ r.toInt = n0.toInt ∧ u0.toInt = n0.toInt + 1 ∧ u1 = upd f1 n0.toNatClampNeg k ∧ u2 = upd f2 n0.toNatClampNeg n ∧ u3 = upd f3 n0.toNatClampNeg c ∧ u4 = upd f4 n0.toNatClampNeg d)
/-- the reference's clauses by number -/
abbrev rfA (m : Int32) (g1 g2 g3 g4 : Nat → Int32) : clsA := (m.toNatClampNeg, g1, g2, g3, g4)
theorem rlC_size {n m : Int32} {fk fn fc fd g1 g2 g3 g4 : Nat → Int32} (h : rlC n fk fn fc fd (rfA m g1 g2 g3 g4)) (hm : 0 ≤ m.toInt) : n = m := by
  have h1 := h.1
  have h2 := tn hm
  exact Int32.toInt_inj.1 (h1.trans h2)
theorem clause_rel {n m k v c d r r' u0 w0 : Int32} {f1 f2 f3 f4 u1 u2 u3 u4 g1 g2 g3 g4 w1 w2 w3 w4 : Nat → Int32} (R : rlC n f1 f2 f3 f4 (rfA m g1 g2 g3 g4)) (hm : 0 ≤ m.toInt) (C : clauseC n k v c d r u0 f1 f2 f3 f4 u1 u2 u3 u4) (M : clauseR m k v c d r' w0 g1 g2 g3 g4 w1 w2 w3 w4) : r = r' ∧ rlC u0 u1 u2 u3 u4 (rfA w0 w1 w2 w3 w4) := by
  have e := rlC_size R hm
  subst e
  rcases C with ⟨c1, c2, c3⟩ | ⟨c1, c2, c3, c4⟩ | ⟨c1, c2, c3, c4, c5, c6, c7, c8⟩
  · rcases M with ⟨m1, m2, m3⟩ | ⟨m1, _⟩ | ⟨m1, _⟩
    · obtain ⟨rfl, rfl, rfl, rfl, rfl⟩ := c3
      obtain ⟨rfl, rfl, rfl, rfl, rfl⟩ := m3
      exact ⟨Int32.toInt_inj.1 (by omega), R⟩
    · exact absurd m1 c1
    · exact absurd m1 c1
  · rcases M with ⟨m1, _⟩ | ⟨m1, m2, m3, m4⟩ | ⟨m1, m2, _⟩
    · exact absurd c1 m1
    · obtain ⟨rfl, rfl, rfl, rfl, rfl⟩ := c4
      obtain ⟨rfl, rfl, rfl, rfl, rfl⟩ := m4
      exact ⟨Int32.toInt_inj.1 (by omega), R⟩
    · omega
  · rcases M with ⟨m1, _⟩ | ⟨m1, m2, _⟩ | ⟨m1, m2, m3, m4, m5, m6, m7, m8⟩
    · exact absurd c1 m1
    · omega
    · refine ⟨Int32.toInt_inj.1 (by rw [c3, m3]), ?_⟩
      have h := rlC_push (k := k) (v := v) (c := c) (d := d) R c4
      rw [c5, c6, c7, c8, m5, m6, m7, m8]
      have e1 : w0.toNatClampNeg = n.toNatClampNeg + 1 := tnS hm m4
      show rlC u0 _ _ _ _ (w0.toNatClampNeg, _, _, _, _)
      rw [e1]
      exact h
/-- swap(), in the class and in the reference -/
def swV (n0 x c d : Int32) (f1 : Nat → Int32) : Prop := (0 ≤ x.toInt ∧ x.toInt < n0.toInt) ∧ mayP (f1 x.toNatClampNeg).toNatClampNeg c d x
def swapC (n0 x c d r u0 : Int32) (f1 f2 f3 f4 u1 u2 u3 u4 : Nat → Int32) : Prop := (u0 = n0 ∧ u1 = f1 ∧ u2 = f2) ∧ ((¬ swV n0 x c d f1 ∧ r.toInt = -2 ∧ u3 = f3 ∧ u4 = f4) ∨ (swV n0 x c d f1 ∧ r.toInt = 1 ∧ u3 = upd f3 x.toNatClampNeg (if 1 ≤ (nmT (f1 x.toNatClampNeg).toNatClampNeg).toInt then c else -1) ∧ u4 = upd f4 x.toNatClampNeg (if (nmT (f1 x.toNatClampNeg).toNatClampNeg).toInt = 2 then d else -1)))
def swapR (n0 x c d r : Int32) (f1 f3 f4 u3 u4 : Nat → Int32) : Prop := (¬ swV n0 x c d f1 ∧ r.toInt = -2 ∧ u3 = f3 ∧ u4 = f4) ∨ (swV n0 x c d f1 ∧ r.toInt = 1 ∧ u3 = upd f3 x.toNatClampNeg c ∧ u4 = upd f4 x.toNatClampNeg d)
theorem swap_rel {n m x c d r r' u0 : Int32} {f1 f2 f3 f4 u1 u2 u3 u4 g1 g2 g3 g4 w3 w4 : Nat → Int32} (R : rlC n f1 f2 f3 f4 (rfA m g1 g2 g3 g4)) (hm : 0 ≤ m.toInt) (C : swapC n x c d r u0 f1 f2 f3 f4 u1 u2 u3 u4) (M : swapR m x c d r' g1 g3 g4 w3 w4) : r = r' ∧ rlC u0 u1 u2 u3 u4 (rfA m g1 g2 w3 w4) := by
  have e := rlC_size R hm
  subst e
  obtain ⟨⟨rfl, rfl, rfl⟩, C⟩ := C
  have key : 0 ≤ x.toInt ∧ x.toInt < u0.toInt → u1 x.toNatClampNeg = g1 x.toNatClampNeg := fun h => by
    have h1 := R.1
    have h2 := tn h.1
    have h3 := tn hm
    exact (R.2 x.toNatClampNeg (by show x.toNatClampNeg < u0.toNatClampNeg; omega)).1
  rcases C with ⟨c1, c2, c3, c4⟩ | ⟨c1, c2, c3, c4⟩
  · rcases M with ⟨m1, m2, m3, m4⟩ | ⟨m1, _⟩
    · subst c3; subst c4; subst m3; subst m4; exact ⟨Int32.toInt_inj.1 (by omega), R⟩
    · exact absurd ⟨m1.1, by rw [key m1.1]; exact m1.2⟩ c1
  · rcases M with ⟨m1, _⟩ | ⟨m1, m2, m3, m4⟩
    · exact absurd ⟨c1.1, by rw [← key c1.1]; exact c1.2⟩ m1
    · refine ⟨Int32.toInt_inj.1 (by omega), ?_⟩
      rw [c3, c4, m3, m4]
      exact rlC_swap (c := c) (d := d) R c1.1
theorem drop_rel {n m r r' u0 w0 : Int32} {f1 f2 f3 f4 g1 g2 g3 g4 : Nat → Int32} (R : rlC n f1 f2 f3 f4 (rfA m g1 g2 g3 g4)) (hm : 0 ≤ m.toInt) (C : dropC n r u0) (M : dropC m r' w0) : r = r' ∧ rlC u0 f1 f2 f3 f4 (rfA w0 g1 g2 g3 g4) := by
  have e := rlC_size R hm
  subst e
  rcases C with ⟨c1, c2, c3⟩ | ⟨c1, c2, c3⟩
  · rcases M with ⟨m1, m2, m3⟩ | ⟨m1, _⟩
    · subst c3; subst m3; exact ⟨Int32.toInt_inj.1 (by omega), R⟩
    · omega
  · rcases M with ⟨m1, _⟩ | ⟨m1, m2, m3⟩
    · omega
    · have e2 : u0 = w0 := Int32.toInt_inj.1 (by omega)
      subst e2
      refine ⟨c2.trans m2.symm, ?_⟩
      have h := rlC_drop R (by omega) c3
      have h2 : u0.toNatClampNeg = n.toNatClampNeg - 1 := by
        have h3 := tn hm
        have h4 := tn (x := u0) (by omega)
        omega
      show rlC u0 _ _ _ _ (u0.toNatClampNeg, _, _, _, _)
      rw [h2]
      exact h
/-! sum -/
/-- behind k more clauses of a bag: the last one's number, all clauses -/
def sumF (g : Nat → Int32) (A : clsA) : Nat → Int32 × clsA
  | 0 => (g 0, A)
  | k + 1 => (nI (sumF g A k).2.1, clsP (sumF g A k).2 5 0 (sumF g A k).1 (g (k + 1)))
theorem sumF_ext {g g' : Nat → Int32} {A : clsA} : ∀ k : Nat, (∀ j : Nat, j < k + 1 → g j = g' j) → sumF g A k = sumF g' A k
  | 0, h => by
    show (g 0, A) = (g' 0, A)
    rw [h 0 (by omega)]
  | k + 1, h => by
    show (nI (sumF g A k).2.1, clsP (sumF g A k).2 5 0 (sumF g A k).1 (g (k + 1))) = (nI (sumF g' A k).2.1, clsP (sumF g' A k).2 5 0 (sumF g' A k).1 (g' (k + 1)))
    rw [sumF_ext k (fun j hj => h j (by omega)), h (k + 1) (by omega)]
theorem sumF_many {g : Nat → Int32} {A : clsA} : ∀ k : Nat, (sumF g A k).2.1 = A.1 + k
  | 0 => rfl
  | k + 1 => by
    show (sumF g A k).2.1 + 1 = A.1 + (k + 1)
    rw [sumF_many k]
    omega
/-- sum(): where it is taken -/
abbrev sumN (n0 : Int32) (m : Int32) (g : Nat → Int32) : Prop := 1 ≤ m.toInt ∧ ∀ j : Nat, (j : Int) < m.toInt → 0 ≤ (g j).toInt ∧ (g j).toInt < n0.toInt
/-- what sum() answers and does, in the class: m, g is the bag -/
def sumC (n0 r u0 m : Int32) (g f1 f2 f3 f4 u1 u2 u3 u4 : Nat → Int32) (bad : Prop) : Prop := (bad ∧ r.toInt = -2 ∧ (u0 = n0 ∧ u1 = f1 ∧ u2 = f2 ∧ u3 = f3 ∧ u4 = f4)) ∨ (¬ bad ∧ ¬ sumN n0 m g ∧ r.toInt = -1 ∧ (u0 = n0 ∧ u1 = f1 ∧ u2 = f2 ∧ u3 = f3 ∧ u4 = f4)) ∨ (¬ bad ∧ sumN n0 m g ∧ 24 < n0.toInt + m.toInt - 1 ∧ r.toInt = -4 ∧ (u0 = n0 ∧ u1 = f1 ∧ u2 = f2 ∧ u3 = f3 ∧ u4 = f4)) ∨ (¬ bad ∧ sumN n0 m g ∧ n0.toInt + m.toInt - 1 ≤ 24 ∧ ∀ A : clsA, rlC n0 f1 f2 f3 f4 A → r = (sumF g A (m.toNatClampNeg - 1)).1 ∧ rlC u0 u1 u2 u3 u4 (sumF g A (m.toNatClampNeg - 1)).2)
/-- in the reference -/
def sumR (n0 r u0 m : Int32) (g f1 f2 f3 f4 u1 u2 u3 u4 : Nat → Int32) (bad : Prop) : Prop := (bad ∧ r.toInt = -2 ∧ (u0 = n0 ∧ u1 = f1 ∧ u2 = f2 ∧ u3 = f3 ∧ u4 = f4)) ∨ (¬ bad ∧ ¬ sumN n0 m g ∧ r.toInt = -1 ∧ (u0 = n0 ∧ u1 = f1 ∧ u2 = f2 ∧ u3 = f3 ∧ u4 = f4)) ∨ (¬ bad ∧ sumN n0 m g ∧ 24 < n0.toInt + m.toInt - 1 ∧ r.toInt = -4 ∧ (u0 = n0 ∧ u1 = f1 ∧ u2 = f2 ∧ u3 = f3 ∧ u4 = f4)) ∨ (¬ bad ∧ sumN n0 m g ∧ n0.toInt + m.toInt - 1 ≤ 24 ∧ r = (sumF g (rfA n0 f1 f2 f3 f4) (m.toNatClampNeg - 1)).1 ∧ rfA u0 u1 u2 u3 u4 = (sumF g (rfA n0 f1 f2 f3 f4) (m.toNatClampNeg - 1)).2)
theorem sum_rel {n n' r r' u0 w0 m m' : Int32} {g h f1 f2 f3 f4 u1 u2 u3 u4 g1 g2 g3 g4 w1 w2 w3 w4 : Nat → Int32} {bad : Prop} (R : rlC n f1 f2 f3 f4 (rfA n' g1 g2 g3 g4)) (hn : 0 ≤ n'.toInt) (hB : ¬ bad → m = m' ∧ ∀ i : Nat, (i : Int) < m.toInt → g i = h i) (C : sumC n r u0 m g f1 f2 f3 f4 u1 u2 u3 u4 bad) (M : sumR n' r' w0 m' h g1 g2 g3 g4 w1 w2 w3 w4 bad) : r = r' ∧ rlC u0 u1 u2 u3 u4 (rfA w0 w1 w2 w3 w4) := by
  have e := rlC_size R hn
  subst e
  have same : (u0 = n ∧ u1 = f1 ∧ u2 = f2 ∧ u3 = f3 ∧ u4 = f4) → (w0 = n ∧ w1 = g1 ∧ w2 = g2 ∧ w3 = g3 ∧ w4 = g4) → rlC u0 u1 u2 u3 u4 (rfA w0 w1 w2 w3 w4) := fun a b => by
    obtain ⟨rfl, rfl, rfl, rfl, rfl⟩ := a
    obtain ⟨rfl, rfl, rfl, rfl, rfl⟩ := b
    exact R
  by_cases hb : bad
  · rcases C with ⟨c1, c2, c3⟩ | ⟨c1, _⟩ | ⟨c1, _⟩ | ⟨c1, _⟩
    · rcases M with ⟨m1, m2, m3⟩ | ⟨m1, _⟩ | ⟨m1, _⟩ | ⟨m1, _⟩
      · exact ⟨Int32.toInt_inj.1 (by omega), same c3 m3⟩
      · exact absurd hb m1
      · exact absurd hb m1
      · exact absurd hb m1
    · exact absurd hb c1
    · exact absurd hb c1
    · exact absurd hb c1
  · obtain ⟨e, hg⟩ := hB hb
    subst e
    have hN : sumN n m g ↔ sumN n m h := ⟨fun a => ⟨a.1, fun j hj => by rw [← hg j hj]; exact a.2 j hj⟩, fun a => ⟨a.1, fun j hj => by rw [hg j hj]; exact a.2 j hj⟩⟩
    rcases C with ⟨c1, _⟩ | ⟨_, c1, c2, c3⟩ | ⟨_, c0, c1, c2, c3⟩ | ⟨_, c0, c1, c2⟩
    · exact absurd c1 hb
    · rcases M with ⟨m1, _⟩ | ⟨_, m1, m2, m3⟩ | ⟨_, m0, _⟩ | ⟨_, m0, _⟩
      · exact absurd m1 hb
      · exact ⟨Int32.toInt_inj.1 (by omega), same c3 m3⟩
      · exact absurd (hN.2 m0) c1
      · exact absurd (hN.2 m0) c1
    · rcases M with ⟨m1, _⟩ | ⟨_, m1, _⟩ | ⟨_, m0, m1, m2, m3⟩ | ⟨_, m0, m1, _⟩
      · exact absurd m1 hb
      · exact absurd (hN.1 c0) m1
      · exact ⟨Int32.toInt_inj.1 (by omega), same c3 m3⟩
      · omega
    · rcases M with ⟨m1, _⟩ | ⟨_, m1, _⟩ | ⟨_, m0, m1, _⟩ | ⟨_, m0, m1, m2, m3⟩
      · exact absurd m1 hb
      · exact absurd (hN.1 c0) m1
      · omega
      · obtain ⟨c4, c5⟩ := c2 _ R
        have t := tn (x := m) (by have := c0.1; omega)
        rw [sumF_ext (m.toNatClampNeg - 1) (fun j hj => hg j (by have := c0.1; omega))] at c4 c5
        refine ⟨by rw [c4, m2], ?_⟩
        rw [m3]
        exact c5
theorem sum_stepC {g : Nat → Int32} {n0 nn n' al r z ii ii' : Int32} {f1 f2 f3 f4 v1 v2 v3 v4 w1 w2 w3 w4 : Nat → Int32} (h1 : 1 ≤ ii.toInt) (hi : ii'.toInt = ii.toInt + 1) (H : ∀ A : clsA, rlC n0 f1 f2 f3 f4 A → al = (sumF g A (ii.toNatClampNeg - 1)).1 ∧ rlC nn v1 v2 v3 v4 (sumF g A (ii.toNatClampNeg - 1)).2) (hz : z = g ii.toNatClampNeg) (hr : r = nn) (hn' : n'.toInt = nn.toInt + 1) (hw : w1 = upd v1 nn.toNatClampNeg 5 ∧ w2 = upd v2 nn.toNatClampNeg 0 ∧ w3 = upd v3 nn.toNatClampNeg (if 1 ≤ (nmT (5 : Int32).toNatClampNeg).toInt then al else -1) ∧ w4 = upd v4 nn.toNatClampNeg (if (nmT (5 : Int32).toNatClampNeg).toInt = 2 then z else -1)) : ∀ A : clsA, rlC n0 f1 f2 f3 f4 A → r = (sumF g A (ii'.toNatClampNeg - 1)).1 ∧ rlC n' w1 w2 w3 w4 (sumF g A (ii'.toNatClampNeg - 1)).2 := by
  intro A hA
  obtain ⟨a1, a2⟩ := H A hA
  have t := tn (x := ii) (by omega)
  have t2 := tnS (by omega) hi
  have e : ii'.toNatClampNeg - 1 = (ii.toNatClampNeg - 1) + 1 := by omega
  rw [e]
  obtain ⟨w5, w6, w7, w8⟩ := hw
  refine ⟨?_, ?_⟩
  · show r = nI (sumF g A (ii.toNatClampNeg - 1)).2.1
    rw [hr, ← rlC_clamp a2, nI_back (by have := a2.1; omega)]
  · show rlC n' w1 w2 w3 w4 (clsP (sumF g A (ii.toNatClampNeg - 1)).2 5 0 (sumF g A (ii.toNatClampNeg - 1)).1 (g (ii.toNatClampNeg - 1 + 1)))
    rw [← a1, show ii.toNatClampNeg - 1 + 1 = ii.toNatClampNeg by omega, ← hz, w5, w6, w7, w8]
    exact rlC_push a2 hn'
/-! asClause -/
def asCl (n9 h k s x : Int32) (fk : Nat → Int32) (r : Int32) : Prop := (¬ ((0 ≤ h.toInt ∧ h.toInt ≤ 3) ∧ 0 ≤ k.toInt ∧ k.toInt ≤ 3) ∧ r.toInt = -2) ∨ (((0 ≤ h.toInt ∧ h.toInt ≤ 3) ∧ 0 ≤ k.toInt ∧ k.toInt ≤ 3) ∧ ((s.toInt = 0 ∧ r.toInt = -11) ∨ (s.toInt ≠ 0 ∧ s.toInt ≠ 1 ∧ r.toInt = -13) ∨ (s.toInt = 1 ∧ ¬ (0 ≤ x.toInt ∧ x.toInt < n9.toInt) ∧ r.toInt = -11) ∨ (s.toInt = 1 ∧ (0 ≤ x.toInt ∧ x.toInt < n9.toInt) ∧ (k.toInt ≠ 3 ∧ (nmT (fk x.toNatClampNeg).toNatClampNeg).toInt ≠ k.toInt) ∧ r.toInt = -13) ∨ (s.toInt = 1 ∧ (0 ≤ x.toInt ∧ x.toInt < n9.toInt) ∧ ¬ (k.toInt ≠ 3 ∧ (nmT (fk x.toNatClampNeg).toNatClampNeg).toInt ≠ k.toInt) ∧ r.toInt = (fk x.toNatClampNeg).toInt)))
theorem asCl_uniq {n9 h k s x r r' : Int32} {fk : Nat → Int32} (a : asCl n9 h k s x fk r) (b : asCl n9 h k s x fk r') : r = r' := by
  refine Int32.toInt_inj.1 ?_
  unfold asCl at a b
  omega
theorem asCl_rel {n m h k s s' x x' r r' : Int32} {f1 f2 f3 f4 g1 g2 g3 g4 : Nat → Int32} (R : rlC n f1 f2 f3 f4 (rfA m g1 g2 g3 g4)) (hm : 0 ≤ m.toInt) (hH : (0 ≤ h.toInt ∧ h.toInt ≤ 3) → s = s' ∧ (s.toInt = 1 → x = x')) (a : asCl n h k s x f1 r) (b : asCl m h k s' x' g1 r') : r = r' := by
  have e := rlC_size R hm
  subst e
  by_cases hh : 0 ≤ h.toInt ∧ h.toInt ≤ 3
  · obtain ⟨e1, e2⟩ := hH hh
    subst e1
    by_cases h1 : s.toInt = 1
    · have e3 := e2 h1
      subst e3
      by_cases hx : 0 ≤ x.toInt ∧ x.toInt < n.toInt
      · have t := tn hx.1
        have t2 := tn hm
        have e4 : f1 x.toNatClampNeg = g1 x.toNatClampNeg := (R.2 x.toNatClampNeg (by show x.toNatClampNeg < n.toNatClampNeg; omega)).1
        unfold asCl at a b
        rw [e4] at a
        exact Int32.toInt_inj.1 (by omega)
      · unfold asCl at a b
        exact Int32.toInt_inj.1 (by omega)
    · unfold asCl at a b
      exact Int32.toInt_inj.1 (by omega)
  · unfold asCl at a b
    exact Int32.toInt_inj.1 (by omega)
end
section
theorem dX2_append_0 : decode cX2_append 0 = .ok (.aload_n 0, 1) := by decide +kernel
theorem dX2_append_1 : decode cX2_append 1 = .ok (.getfield 9, 3) := by decide +kernel
theorem dX2_append_11 : decode cX2_append 11 = .ok (.ireturn, 1) := by decide +kernel
theorem dX2_append_12 : decode cX2_append 12 = .ok (.aload_n 0, 1) := by decide +kernel
theorem dX2_append_13 : decode cX2_append 13 = .ok (.getfield 9, 3) := by decide +kernel
theorem dX2_append_16 : decode cX2_append 16 = .ok (.istore 5, 2) := by decide +kernel
theorem dX2_append_18 : decode cX2_append 18 = .ok (.aload_n 0, 1) := by decide +kernel
theorem dX2_append_19 : decode cX2_append 19 = .ok (.dup, 1) := by decide +kernel
theorem dX2_append_20 : decode cX2_append 20 = .ok (.getfield 9, 3) := by decide +kernel
theorem dX2_append_23 : decode cX2_append 23 = .ok (.iconst 1, 1) := by decide +kernel
theorem dX2_append_24 : decode cX2_append 24 = .ok (.iadd, 1) := by decide +kernel
theorem dX2_append_25 : decode cX2_append 25 = .ok (.putfield 9, 3) := by decide +kernel
theorem dX2_append_28 : decode cX2_append 28 = .ok (.aload_n 0, 1) := by decide +kernel
theorem dX2_append_29 : decode cX2_append 29 = .ok (.getfield 15, 3) := by decide +kernel
theorem dX2_append_32 : decode cX2_append 32 = .ok (.iload 5, 2) := by decide +kernel
theorem dX2_append_34 : decode cX2_append 34 = .ok (.iload_n 1, 1) := by decide +kernel
theorem dX2_append_35 : decode cX2_append 35 = .ok (.iastore, 1) := by decide +kernel
theorem dX2_append_36 : decode cX2_append 36 = .ok (.aload_n 0, 1) := by decide +kernel
theorem dX2_append_37 : decode cX2_append 37 = .ok (.getfield 19, 3) := by decide +kernel
theorem dX2_append_4 : decode cX2_append 4 = .ok (.bipush 24, 2) := by decide +kernel
theorem dX2_append_40 : decode cX2_append 40 = .ok (.iload 5, 2) := by decide +kernel
theorem dX2_append_42 : decode cX2_append 42 = .ok (.iload_n 2, 1) := by decide +kernel
theorem dX2_append_43 : decode cX2_append 43 = .ok (.iastore, 1) := by decide +kernel
theorem dX2_append_44 : decode cX2_append 44 = .ok (.aload_n 0, 1) := by decide +kernel
theorem dX2_append_45 : decode cX2_append 45 = .ok (.iload 5, 2) := by decide +kernel
theorem dX2_append_47 : decode cX2_append 47 = .ok (.iload_n 3, 1) := by decide +kernel
theorem dX2_append_48 : decode cX2_append 48 = .ok (.iload 4, 2) := by decide +kernel
theorem dX2_append_50 : decode cX2_append 50 = .ok (.invokevirtual 47, 3) := by decide +kernel
theorem dX2_append_53 : decode cX2_append 53 = .ok (.iload 5, 2) := by decide +kernel
theorem dX2_append_55 : decode cX2_append 55 = .ok (.ireturn, 1) := by decide +kernel
theorem dX2_append_6 : decode cX2_append 6 = .ok (.if_icmp .lt 6, 3) := by decide +kernel
theorem dX2_append_9 : decode cX2_append 9 = .ok (.bipush (-4), 2) := by decide +kernel
set_option maxRecDepth 20000 in
theorem ggX2_append_X2_rename : GoodIn wsX2_append wsX2_rename := goodIn_r _ [8, 9, 10, 11, 1, 12, 13, 14, 7, 15, 2, 16, 17, 18, 19, 20, 21, 22, 23, 24, 25, 26, 27, 3, 28, 29, 30, 31, 32, 33, 34, 35, 36, 37, 38] rfl (by decide +kernel)
set_option maxRecDepth 20000 in
theorem gX2_append_X2_rename : GoodIn wsX2_append (wsV RX2 47 RX2 yX2_rename wsX2_rename) := goodIn_app (goodIn_r _ [4, 5, 6, 7] rfl (by decide +kernel)) ggX2_append_X2_rename
theorem hv_X2_rename : yX2_rename.cls = RX2 ∧ yX2_rename.cls ≠ "java/lang/invoke/MethodHandle" ∧ yX2_rename.cls ≠ "java/lang/invoke/VarHandle" ∧ (parseMethodDescriptor yX2_rename.desc).map (fun d => d.parameters.length) = some 3 := by decide +kernel
set_option maxRecDepth 20000 in
theorem in_X2_append_X2 : ∀ w ∈ wsX20, w ∈ wsX2_append := sub_r [31, 32, 33, 34, 35, 36, 37, 38] rfl
set_option maxHeartbeats 4000000 in
set_option maxRecDepth 100000 in
theorem c_X2_append (l : Launch) (D : va_G) (T : Nat → ClassId) (ad sa av : Nat → Nat) (ta : Nat) (sz : Nat) (h0 : Nat) (n0 : Int32) (c1 : Nat) (c2 : Nat) (c3 : Nat) (c4 : Nat) (c5 : Nat) (c6 : Nat) (c7 : Nat) (f1 : Nat → Int32) (f2 : Nat → Int32) (f3 : Nat → Int32) (f4 : Nat → Int32) (f5 : Nat → Int32) (f6 : Nat → Int32) (f7 : Nat → Int32) (x1 : Int32) (x2 : Int32) (x3 : Int32) (x4 : Int32) (hn0 : 0 ≤ n0.toInt ∧ n0.toInt ≤ 24) (hok : okC f1 f3 f4 f5) (hk : 0 ≤ x1.toInt ∧ x1.toInt ≤ 12) (hc9 : 1 ≤ (nmT x1.toNatClampNeg).toInt → 0 ≤ x3.toInt ∧ x3.toInt < n0.toInt) (hd9 : (nmT x1.toNatClampNeg).toInt = 2 → 0 ≤ x4.toInt ∧ x4.toInt < n0.toInt) (hme : ∀ j : Nat, (j : Int) < n0.toInt → mesP f1 f2 f3 f4 f5 f6 f7 j) : Met l yX2_append wsX2_append ({ frames := 3, cells := 0, slots := 0, locals := 90 }) (pWk [.ref h0, .int x1, .int x2, .int x3, .int x4] D T [(h0, .inr (1, [.int n0, .ref c1, .ref c2, .ref c3, .ref c4, .ref c5, .ref c6, .ref c7])), (c1, .inl (T 0, 24, .inl f1)), (c2, .inl (T 0, 24, .inl f2)), (c3, .inl (T 0, 24, .inl f3)), (c4, .inl (T 0, 24, .inl f4)), (c5, .inl (T 0, 24, .inl f5)), (c6, .inl (T 0, 24, .inl f6)), (c7, .inl (T 0, 24, .inl f7))] sz ad sa av ta) (va_Qi (fun (r : Int32) (u : Nat → Nat → Int32) => ((24 ≤ n0.toInt ∧ r = -4 ∧ u 0 0 = n0) ∨ (n0.toInt < 24 ∧ r = n0 ∧ (u 0 0).toInt = n0.toInt + 1)) ∧ ((0 ≤ (u 0 0).toInt ∧ (u 0 0).toInt ≤ 24) ∧ okC (u 1) (u 3) (u 4) (u 5)) ∧ ((n0.toInt < 24 → u 1 = upd f1 (n0.toNatClampNeg) x1 ∧ u 2 = upd f2 (n0.toNatClampNeg) x2 ∧ u 3 = upd f3 (n0.toNatClampNeg) (if 1 ≤ (nmT (x1.toNatClampNeg)).toInt then x3 else -1) ∧ u 4 = upd f4 (n0.toNatClampNeg) (if (nmT (x1.toNatClampNeg)).toInt = 2 then x4 else -1)) ∧ (¬ n0.toInt < 24 → u 1 = f1 ∧ u 2 = f2 ∧ u 3 = f3 ∧ u 4 = f4)) ∧ (∀ j : Nat, (j : Int) < (u 0 0).toInt → mesP (u 1) (u 2) (u 3) (u 4) (u 5) (u 6) (u 7) j)) (bW D (va_A [(h0, .inr (1, [.int n0, .ref c1, .ref c2, .ref c3, .ref c4, .ref c5, .ref c6, .ref c7])), (c1, .inl (T 0, 24, .inl f1)), (c2, .inl (T 0, 24, .inl f2)), (c3, .inl (T 0, 24, .inl f3)), (c4, .inl (T 0, 24, .inl f4)), (c5, .inl (T 0, 24, .inl f5)), (c6, .inl (T 0, 24, .inl f6)), (c7, .inl (T 0, 24, .inl f7))] sz) (fun (u : Nat → Nat → Int32) => [(h0, .inr (1, [.int (u 0 0), .ref c1, .ref c2, .ref c3, .ref c4, .ref c5, .ref c6, .ref c7])), (c1, .inl (T 0, 24, .inl (u 1))), (c2, .inl (T 0, 24, .inl (u 2))), (c3, .inl (T 0, 24, .inl (u 3))), (c4, .inl (T 0, 24, .inl (u 4))), (c5, .inl (T 0, 24, .inl (u 5))), (c6, .inl (T 0, 24, .inl (u 6))), (c7, .inl (T 0, 24, .inl (u 7)))])) (va_A [(h0, .inr (1, [.int n0, .ref c1, .ref c2, .ref c3, .ref c4, .ref c5, .ref c6, .ref c7])), (c1, .inl (T 0, 24, .inl f1)), (c2, .inl (T 0, 24, .inl f2)), (c3, .inl (T 0, 24, .inl f3)), (c4, .inl (T 0, 24, .inl f4)), (c5, .inl (T 0, 24, .inl f5)), (c6, .inl (T 0, 24, .inl f6)), (c7, .inl (T 0, 24, .inl f7))] sz)) 0 0 (va_A [(h0, .inr (1, [.int n0, .ref c1, .ref c2, .ref c3, .ref c4, .ref c5, .ref c6, .ref c7])), (c1, .inl (T 0, 24, .inl f1)), (c2, .inl (T 0, 24, .inl f2)), (c3, .inl (T 0, 24, .inl f3)), (c4, .inl (T 0, 24, .inl f4)), (c5, .inl (T 0, 24, .inl f5)), (c6, .inl (T 0, 24, .inl f6)), (c7, .inl (T 0, 24, .inl f7))] sz) := by
  refine Met.ofW (cc := cX2_append) (maxL := 6) (ret := (some .int)) (by decide +kernel) rfl ?_
  intro p e s m args below meth c s₁ B hml hv
  obtain ⟨rfl, hsz, hP, hE, hD0, hV⟩ := hv
  have hx := B.exec
  have hb := B.bytes
  have hr := B.returns
  have hts := atoms_spec (ws := wsX2_append) B.pre
  have hown : s.vm.findClass RX2 = some m.cls := findClass_of_methodNamed B.named
  have hlocks := B.notSynchronized
  subst hsz
  have hD := hD0.self (sz := s.heap.size)
  generalize hAe : va_A [(h0, .inr (1, [.int n0, .ref c1, .ref c2, .ref c3, .ref c4, .ref c5, .ref c6, .ref c7])), (c1, .inl (T 0, 24, .inl f1)), (c2, .inl (T 0, 24, .inl f2)), (c3, .inl (T 0, 24, .inl f3)), (c4, .inl (T 0, 24, .inl f4)), (c5, .inl (T 0, 24, .inl f5)), (c6, .inl (T 0, 24, .inl f6)), (c7, .inl (T 0, 24, .inl f7))] s.heap.size = A at hD hV ⊢
  have hA : ∀ q : Nat, s.heap.size ≤ q → A q := fun q h => by rw [← hAe]; exact Or.inr h
  have hS : va_S A s.heap s.heap [] := va_S.rf
  have hP : va_P D vwCl [(h0, .inr (1, [.int n0, .ref c1, .ref c2, .ref c3, .ref c4, .ref c5, .ref c6, .ref c7])), (c1, .inl (T 0, 24, .inl f1)), (c2, .inl (T 0, 24, .inl f2)), (c3, .inl (T 0, 24, .inl f3)), (c4, .inl (T 0, 24, .inl f4)), (c5, .inl (T 0, 24, .inl f5)), (c6, .inl (T 0, 24, .inl f6)), (c7, .inl (T 0, 24, .inl f7))] s.heap := hP
  have hl := lv_entry ([.ref h0, .int x1, .int x2, .int x3, .int x4]) (n := 6) (Nat.le_of_ble_eq_true rfl)
  rw [lg_entry_eq]
  generalize (lg_sl ([.ref h0, .int x1, .int x2, .int x3, .int x4]) ++ List.replicate (6 - (lg_sl ([.ref h0, .int x1, .int x2, .int x3, .int x4])).length) Slot.unset).toArray = ls at hl ⊢
  have hl : lv_has ls 6 [(0, .ref h0), (1, .int x1), (2, .int x2), (3, .int x3), (4, .int x4)] := hl
  clear hD0
  refine lv_aload_n hx hb dX2_append_0 rfl (lv_at hl 0 rfl) ?_
  refine va_get (D := D) (ci := 1) (v := .int n0) (C := RX2) (T := TX2) (N := 8) hx hb hts in_X2_append_X2 hown hE.1 hP 0 rfl rfl 0 (by decide +kernel) (hts (.fieldLink RX2 9 "ClauseBook$Clauses" "size" "I") (List.mem_of_getElem? (i := 1) rfl)) (fun _ h9 => h9) rfl dX2_append_1 ?_
  refine lv_bipush (v := 24) hx hb dX2_append_4 (by decide +kernel) ?_
  refine lv_icmp_lt (tgt := 12) hx hb dX2_append_6 (by decide +kernel) (fun c_1 => ?_) (fun c_1 => ?_)
  · rw [fa_lt] at c_1
    try rw [ti_24] at c_1
    refine lv_aload_n hx hb dX2_append_12 rfl (lv_at hl 0 rfl) ?_
    refine va_get (D := D) (ci := 1) (v := .int n0) (C := RX2) (T := TX2) (N := 8) hx hb hts in_X2_append_X2 hown hE.1 hP 0 rfl rfl 0 (by decide +kernel) (hts (.fieldLink RX2 9 "ClauseBook$Clauses" "size" "I") (List.mem_of_getElem? (i := 1) rfl)) (fun _ h9 => h9) rfl dX2_append_13 ?_
    refine lv_istore (lv' := [(5, .int n0), (0, .ref h0), (1, .int x1), (2, .int x2), (3, .int x3), (4, .int x4)]) hx hb dX2_append_16 hl (by decide +kernel) rfl (fun ls hl => ?_)
    refine lv_aload_n hx hb dX2_append_18 rfl (lv_at hl 1 rfl) ?_
    refine lv_dup hx hb dX2_append_19 rfl ?_
    refine va_get (D := D) (ci := 1) (v := .int n0) (C := RX2) (T := TX2) (N := 8) hx hb hts in_X2_append_X2 hown hE.1 hP 0 rfl rfl 0 (by decide +kernel) (hts (.fieldLink RX2 9 "ClauseBook$Clauses" "size" "I") (List.mem_of_getElem? (i := 1) rfl)) (fun _ h9 => h9) rfl dX2_append_20 ?_
    refine lv_iconst (v := 1) hx hb dX2_append_23 (by decide +kernel) ?_
    refine lv_iadd hx hb dX2_append_24 ?_
    refine lv_topi (fun z_2 ez_2 => ?_)
    refine va_put (D := D) (ci := 1) (v := .int z_2) (ty := .int) (C := RX2) (T := TX2) (N := 8) hx hb hts in_X2_append_X2 tyX2 tyX2_ok nmX2 hown hE.1 hP hD hS 0 rfl rfl 0 (by decide +kernel) (hts (.fieldLink RX2 9 "ClauseBook$Clauses" "size" "I") (List.mem_of_getElem? (i := 1) rfl)) (fun _ h9 => h9) rfl (by decide +kernel) rfl rfl (Nat.le_of_ble_eq_true rfl) dX2_append_25 (fun H locs hP hD hS => ?_)
    obtain ⟨hP, hD⟩ := wPD [(h0, .inr (1, [.int z_2, .ref c1, .ref c2, .ref c3, .ref c4, .ref c5, .ref c6, .ref c7])), (c1, .inl (T 0, 24, .inl f1)), (c2, .inl (T 0, 24, .inl f2)), (c3, .inl (T 0, 24, .inl f3)), (c4, .inl (T 0, 24, .inl f4)), (c5, .inl (T 0, 24, .inl f5)), (c6, .inl (T 0, 24, .inl f6)), (c7, .inl (T 0, 24, .inl f7))] hP hD rfl
    have hz_2 : z_2.toInt = n0.toInt + 1 := by rw [ez_2]; exact inc1 (n := 24) (by omega) (by decide +kernel)
    refine lv_aload_n hx hb dX2_append_28 rfl (lv_at hl 1 rfl) ?_
    refine va_get (D := D) (ci := 1) (v := .ref c1) (C := RX2) (T := TX2) (N := 8) hx hb hts in_X2_append_X2 hown hE.1 hP 0 rfl rfl 1 (by decide +kernel) (hts (.fieldLink RX2 15 "ClauseBook$Clauses" "kind" "[I") (List.mem_of_getElem? (i := 2) rfl)) (fun _ h9 => h9) rfl dX2_append_29 ?_
    refine lv_iload hx hb dX2_append_32 (lv_at hl 0 rfl) ?_
    refine lv_iload_n hx hb dX2_append_34 rfl (lv_at hl 2 rfl) ?_
    refine va_iast hx hb hE.1 hP hD hS 1 0 rfl rfl (by rw [vp_in_iff]; first | omega | (subst_vars; omega)) dX2_append_35 (fun H locs hP hD hS => ?_)
    obtain ⟨hP, hD⟩ := wPD [(h0, .inr (1, [.int z_2, .ref c1, .ref c2, .ref c3, .ref c4, .ref c5, .ref c6, .ref c7])), (c1, .inl (T 0, 24, .inl (upd f1 (n0.toNatClampNeg) x1))), (c2, .inl (T 0, 24, .inl f2)), (c3, .inl (T 0, 24, .inl f3)), (c4, .inl (T 0, 24, .inl f4)), (c5, .inl (T 0, 24, .inl f5)), (c6, .inl (T 0, 24, .inl f6)), (c7, .inl (T 0, 24, .inl f7))] hP hD rfl
    refine lv_aload_n hx hb dX2_append_36 rfl (lv_at hl 1 rfl) ?_
    refine va_get (D := D) (ci := 1) (v := .ref c2) (C := RX2) (T := TX2) (N := 8) hx hb hts in_X2_append_X2 hown hE.1 hP 0 rfl rfl 2 (by decide +kernel) (hts (.fieldLink RX2 19 "ClauseBook$Clauses" "n" "[I") (List.mem_of_getElem? (i := 3) rfl)) (fun _ h9 => h9) rfl dX2_append_37 ?_
    refine lv_iload hx hb dX2_append_40 (lv_at hl 0 rfl) ?_
    refine lv_iload_n hx hb dX2_append_42 rfl (lv_at hl 3 rfl) ?_
    refine va_iast hx hb hE.1 hP hD hS 2 0 rfl rfl (by rw [vp_in_iff]; first | omega | (subst_vars; omega)) dX2_append_43 (fun H locs hP hD hS => ?_)
    obtain ⟨hP, hD⟩ := wPD [(h0, .inr (1, [.int z_2, .ref c1, .ref c2, .ref c3, .ref c4, .ref c5, .ref c6, .ref c7])), (c1, .inl (T 0, 24, .inl (upd f1 (n0.toNatClampNeg) x1))), (c2, .inl (T 0, 24, .inl (upd f2 (n0.toNatClampNeg) x2))), (c3, .inl (T 0, 24, .inl f3)), (c4, .inl (T 0, 24, .inl f4)), (c5, .inl (T 0, 24, .inl f5)), (c6, .inl (T 0, 24, .inl f6)), (c7, .inl (T 0, 24, .inl f7))] hP hD rfl
    refine lv_aload_n hx hb dX2_append_44 rfl (lv_at hl 1 rfl) ?_
    refine lv_iload hx hb dX2_append_45 (lv_at hl 0 rfl) ?_
    refine lv_iload_n hx hb dX2_append_47 rfl (lv_at hl 4 rfl) ?_
    refine lv_iload hx hb dX2_append_48 (lv_at hl 5 rfl) ?_
    have hFc := va_free (wc := [(h0, .inr (1, [.int z_2, .ref c1, .ref c2, .ref c3, .ref c4, .ref c5, .ref c6, .ref c7])), (c1, .inl (T 0, 24, .inl (upd f1 (n0.toNatClampNeg) x1))), (c2, .inl (T 0, 24, .inl (upd f2 (n0.toNatClampNeg) x2))), (c3, .inl (T 0, 24, .inl f3)), (c4, .inl (T 0, 24, .inl f4)), (c5, .inl (T 0, 24, .inl f5)), (c6, .inl (T 0, 24, .inl f6)), (c7, .inl (T 0, 24, .inl f7))]) hD hS hA [0, 1, 2, 3, 4, 5, 6, 7] rfl
    refine va_callv (va_runV (As := [.int n0, .int x3, .int x4]) (rest := []) ⟨hx, hb, hml, hown, hts⟩ (c_X2_rename l D T ad sa av ta _ h0 z_2 c1 c2 c3 c4 c5 c6 c7 (upd f1 (n0.toNatClampNeg) x1) (upd f2 (n0.toNatClampNeg) x2) f3 f4 f5 f6 f7 n0 x3 x4 (by omega) (by omega) (okC.up hok hk) (fun a => by rw [upd_at] at a; exact hc9 a) (fun a => by rw [upd_at] at a; exact hd9 a) (mes_kn hok (by omega) hme)) (cwV 3 hts gX2_append_X2_rename rfl rfl rfl hv_X2_rename ⟨Nat.le_of_ble_eq_true rfl, Nat.le_of_ble_eq_true rfl⟩) (pWk_V (q := (RX2, TX2, 8)) (ci := 1) (q0 := 0) hP hE hD hV hS hFc rfl rfl [0, 1, 2, 3, 4, 5, 6, 7] (by decide +kernel) rfl rfl) rfl rfl hl.1 rfl (lv_room (Nat.le_of_ble_eq_true rfl)) dX2_append_50 ⟨Nat.le_of_ble_eq_true rfl, Nat.le_of_ble_eq_true rfl⟩) hS (fun q _ h => hFc q h) hFc (fun u_4 t H1 locs ht hvm hr_3 hB hz1 hk1 hS => ?_)
    have hok : okC (upd f1 (n0.toNatClampNeg) x1) (u_4 3) (u_4 4) (u_4 5) := hr_3.1
    have hrn3 : (u_4 3) = upd f3 (n0.toNatClampNeg) (if 1 ≤ (nmT (((upd f1 (n0.toNatClampNeg) x1) (n0.toNatClampNeg)).toNatClampNeg)).toInt then x3 else -1) := hr_3.2.1
    have hrn4 : (u_4 4) = upd f4 (n0.toNatClampNeg) (if (nmT (((upd f1 (n0.toNatClampNeg) x1) (n0.toNatClampNeg)).toNatClampNeg)).toInt = 2 then x4 else -1) := hr_3.2.2.1
    have hme : ∀ j : Nat, (j : Int) < z_2.toInt → mesP (upd f1 (n0.toNatClampNeg) x1) (upd f2 (n0.toNatClampNeg) x2) (u_4 3) (u_4 4) (u_4 5) (u_4 6) (u_4 7) j := hr_3.2.2.2
    obtain ⟨hP1, hD1⟩ := hB
    rw [ht] at hP1
    obtain ⟨hP, hD⟩ := va_repl [(h0, .inr (1, [.int z_2, .ref c1, .ref c2, .ref c3, .ref c4, .ref c5, .ref c6, .ref c7])), (c1, .inl (T 0, 24, .inl (upd f1 (n0.toNatClampNeg) x1))), (c2, .inl (T 0, 24, .inl (upd f2 (n0.toNatClampNeg) x2))), (c3, .inl (T 0, 24, .inl (u_4 3))), (c4, .inl (T 0, 24, .inl (u_4 4))), (c5, .inl (T 0, 24, .inl (u_4 5))), (c6, .inl (T 0, 24, .inl (u_4 6))), (c7, .inl (T 0, 24, .inl (u_4 7)))] hP hD [0, 1, 2, 3, 4, 5, 6, 7] [0, 1, 2, 3, 4, 5, 6, 7] rfl (by decide +kernel) rfl rfl rfl hk1 hP1
    clear hP1 hD1 hFc
    generalize H1 = H at hP hS ⊢
    refine lv_iload hx hb dX2_append_53 (lv_at hl 0 rfl) ?_
    exact W.iret hx hb hr (fun t ht hW => ⟨⟨_, (fun k => [fun _ => z_2, (upd f1 (n0.toNatClampNeg) x1), (upd f2 (n0.toNatClampNeg) x2), (u_4 3), (u_4 4), (u_4 5), (u_4 6), (u_4 7)].getD k f1), rfl, ⟨(Or.inr ⟨by omega, rfl, hz_2⟩), ⟨(show 0 ≤ (z_2).toInt ∧ (z_2).toInt ≤ 24 from by omega), (show okC (upd f1 (n0.toNatClampNeg) x1) (u_4 3) (u_4 4) (u_4 5) from by first | exact hok | assumption)⟩, ⟨(fun _ => ⟨rfl, rfl, (show (u_4 3) = _ from by rw [hrn3, upd_at]), (show (u_4 4) = _ from by rw [hrn4, upd_at])⟩), (fun h9 => absurd (by omega) h9)⟩, hme⟩, by rw [ht]; exact hP.sub [0, 1, 2, 3, 4, 5, 6, 7] rfl, hD.sub [0, 1, 2, 3, 4, 5, 6, 7] (by decide +kernel) rfl⟩, hS.F ht⟩) hS.2.2 dX2_append_55
  · rw [fa_lt] at c_1
    try rw [ti_24] at c_1
    refine lv_bipush (v := (-4)) hx hb dX2_append_9 (by decide +kernel) ?_
    exact W.iret hx hb hr (fun t ht hW => ⟨⟨_, (fun k => [fun _ => n0, f1, f2, f3, f4, f5, f6, f7].getD k f1), rfl, ⟨(Or.inl ⟨by omega, rfl, rfl⟩), ⟨(show 0 ≤ (n0).toInt ∧ (n0).toInt ≤ 24 from by omega), (show okC f1 f3 f4 f5 from by first | exact hok | assumption)⟩, ⟨(fun h9 => absurd h9 (by omega)), (fun _ => ⟨rfl, rfl, rfl, rfl⟩)⟩, hme⟩, by rw [ht]; exact hP.sub [0, 1, 2, 3, 4, 5, 6, 7] rfl, hD.sub [0, 1, 2, 3, 4, 5, 6, 7] (by decide +kernel) rfl⟩, hS.F ht⟩) hS.2.2 dX2_append_11
theorem dX12_clause_0 : decode cX12_clause 0 = .ok (.iload_n 1, 1) := by decide +kernel
theorem dX12_clause_1 : decode cX12_clause 1 = .ok (.iconst 0, 1) := by decide +kernel
theorem dX12_clause_11 : decode cX12_clause 11 = .ok (.ifCond .ne 6, 3) := by decide +kernel
theorem dX12_clause_14 : decode cX12_clause 14 = .ok (.bipush (-2), 2) := by decide +kernel
theorem dX12_clause_16 : decode cX12_clause 16 = .ok (.ireturn, 1) := by decide +kernel
theorem dX12_clause_17 : decode cX12_clause 17 = .ok (.getstatic 126, 3) := by decide +kernel
theorem dX12_clause_2 : decode cX12_clause 2 = .ok (.getstatic 126, 3) := by decide +kernel
theorem dX12_clause_20 : decode cX12_clause 20 = .ok (.iload_n 1, 1) := by decide +kernel
theorem dX12_clause_21 : decode cX12_clause 21 = .ok (.aaload, 1) := by decide +kernel
theorem dX12_clause_22 : decode cX12_clause 22 = .ok (.astore 5, 2) := by decide +kernel
theorem dX12_clause_24 : decode cX12_clause 24 = .ok (.iload_n 2, 1) := by decide +kernel
theorem dX12_clause_25 : decode cX12_clause 25 = .ok (.aload 5, 2) := by decide +kernel
theorem dX12_clause_27 : decode cX12_clause 27 = .ok (.getfield 132, 3) := by decide +kernel
theorem dX12_clause_30 : decode cX12_clause 30 = .ok (.aload 5, 2) := by decide +kernel
theorem dX12_clause_32 : decode cX12_clause 32 = .ok (.getfield 135, 3) := by decide +kernel
theorem dX12_clause_35 : decode cX12_clause 35 = .ok (.invokestatic 77, 3) := by decide +kernel
theorem dX12_clause_38 : decode cX12_clause 38 = .ok (.ifCond .eq 21, 3) := by decide +kernel
theorem dX12_clause_41 : decode cX12_clause 41 = .ok (.aload 5, 2) := by decide +kernel
theorem dX12_clause_43 : decode cX12_clause 43 = .ok (.iload_n 3, 1) := by decide +kernel
theorem dX12_clause_44 : decode cX12_clause 44 = .ok (.iload 4, 2) := by decide +kernel
theorem dX12_clause_46 : decode cX12_clause 46 = .ok (.aload_n 0, 1) := by decide +kernel
theorem dX12_clause_47 : decode cX12_clause 47 = .ok (.getfield 32, 3) := by decide +kernel
theorem dX12_clause_5 : decode cX12_clause 5 = .ok (.arraylength, 1) := by decide +kernel
theorem dX12_clause_50 : decode cX12_clause 50 = .ok (.getfield 138, 3) := by decide +kernel
theorem dX12_clause_53 : decode cX12_clause 53 = .ok (.invokevirtual 143, 3) := by decide +kernel
theorem dX12_clause_56 : decode cX12_clause 56 = .ok (.ifCond .ne 6, 3) := by decide +kernel
theorem dX12_clause_59 : decode cX12_clause 59 = .ok (.bipush (-2), 2) := by decide +kernel
theorem dX12_clause_6 : decode cX12_clause 6 = .ok (.iconst 1, 1) := by decide +kernel
theorem dX12_clause_61 : decode cX12_clause 61 = .ok (.ireturn, 1) := by decide +kernel
theorem dX12_clause_62 : decode cX12_clause 62 = .ok (.aload_n 0, 1) := by decide +kernel
theorem dX12_clause_63 : decode cX12_clause 63 = .ok (.getfield 32, 3) := by decide +kernel
theorem dX12_clause_66 : decode cX12_clause 66 = .ok (.getfield 138, 3) := by decide +kernel
theorem dX12_clause_69 : decode cX12_clause 69 = .ok (.bipush 24, 2) := by decide +kernel
theorem dX12_clause_7 : decode cX12_clause 7 = .ok (.isub, 1) := by decide +kernel
theorem dX12_clause_71 : decode cX12_clause 71 = .ok (.if_icmp .lt 6, 3) := by decide +kernel
theorem dX12_clause_74 : decode cX12_clause 74 = .ok (.bipush (-4), 2) := by decide +kernel
theorem dX12_clause_76 : decode cX12_clause 76 = .ok (.ireturn, 1) := by decide +kernel
theorem dX12_clause_77 : decode cX12_clause 77 = .ok (.aload_n 0, 1) := by decide +kernel
theorem dX12_clause_78 : decode cX12_clause 78 = .ok (.getfield 32, 3) := by decide +kernel
theorem dX12_clause_8 : decode cX12_clause 8 = .ok (.invokestatic 77, 3) := by decide +kernel
theorem dX12_clause_81 : decode cX12_clause 81 = .ok (.iload_n 1, 1) := by decide +kernel
theorem dX12_clause_82 : decode cX12_clause 82 = .ok (.iload_n 2, 1) := by decide +kernel
theorem dX12_clause_83 : decode cX12_clause 83 = .ok (.iload_n 3, 1) := by decide +kernel
theorem dX12_clause_84 : decode cX12_clause 84 = .ok (.iload 4, 2) := by decide +kernel
theorem dX12_clause_86 : decode cX12_clause 86 = .ok (.invokevirtual 146, 3) := by decide +kernel
theorem dX12_clause_89 : decode cX12_clause 89 = .ok (.ireturn, 1) := by decide +kernel
set_option maxRecDepth 20000 in
theorem ggX12_clause_X12_within : GoodIn wsX12_clause wsX12_within := goodIn_r _ [8] rfl (by decide +kernel)
set_option maxRecDepth 20000 in
theorem ggX12_clause_X2_append : GoodIn wsX12_clause wsX2_append := goodIn_r _ [19, 20, 21, 22, 23, 24, 25, 18, 26, 27, 28, 29, 30, 31, 32, 33, 34, 35, 36, 37, 38, 39, 40, 41, 42, 43, 44, 45, 46, 47, 48, 60, 61, 62, 63, 64, 65, 66, 67] rfl (by decide +kernel)
set_option maxRecDepth 20000 in
theorem ggX12_clause_X7_mayName : GoodIn wsX12_clause wsX7_mayName := goodIn_r _ [13, 14, 6, 7, 8] rfl (by decide +kernel)
set_option maxRecDepth 20000 in
theorem gX12_clause_X12_within : GoodIn wsX12_clause (va_wsS RX12 77 yX12_within wsX12_within) := goodIn_app (goodIn_of _ (by decide +kernel)) ggX12_clause_X12_within
set_option maxRecDepth 20000 in
theorem gX12_clause_X2_append : GoodIn wsX12_clause (wsV RX12 146 RX2 yX2_append wsX2_append) := goodIn_app (goodIn_r _ [15, 16, 17, 18] rfl (by decide +kernel)) ggX12_clause_X2_append
set_option maxRecDepth 20000 in
theorem gX12_clause_X7_mayName : GoodIn wsX12_clause (wsV RX12 143 RX7 yX7_mayName wsX7_mayName) := goodIn_app (goodIn_r _ [9, 10, 11, 12] rfl (by decide +kernel)) ggX12_clause_X7_mayName
theorem hv_X2_append : yX2_append.cls = RX2 ∧ yX2_append.cls ≠ "java/lang/invoke/MethodHandle" ∧ yX2_append.cls ≠ "java/lang/invoke/VarHandle" ∧ (parseMethodDescriptor yX2_append.desc).map (fun d => d.parameters.length) = some 4 := by decide +kernel
theorem hv_X7_mayName : yX7_mayName.cls = RX7 ∧ yX7_mayName.cls ≠ "java/lang/invoke/MethodHandle" ∧ yX7_mayName.cls ≠ "java/lang/invoke/VarHandle" ∧ (parseMethodDescriptor yX7_mayName.desc).map (fun d => d.parameters.length) = some 3 := by decide +kernel
set_option maxRecDepth 20000 in
theorem in_X12_clause_X12 : ∀ w ∈ wsX120, w ∈ wsX12_clause := sub_r [49, 50, 51, 52, 53, 54, 55, 56, 57, 58, 59] rfl
set_option maxRecDepth 20000 in
theorem in_X12_clause_X2 : ∀ w ∈ wsX20, w ∈ wsX12_clause := sub_r [60, 61, 62, 63, 64, 65, 66, 67] rfl
set_option maxHeartbeats 4000000 in
set_option maxRecDepth 100000 in
theorem c_X12_clause (l : Launch) (D : va_G) (T : Nat → ClassId) (ad sa av : Nat → Nat) (ta : Nat) (sz : Nat) (h0 : Nat) (h1 : Nat) (fs0 : List Value) (n0 : Int32) (c1 : Nat) (c2 : Nat) (c3 : Nat) (c4 : Nat) (c5 : Nat) (c6 : Nat) (c7 : Nat) (f1 : Nat → Int32) (f2 : Nat → Int32) (f3 : Nat → Int32) (f4 : Nat → Int32) (f5 : Nat → Int32) (f6 : Nat → Int32) (f7 : Nat → Int32) (x1 : Int32) (x2 : Int32) (x3 : Int32) (x4 : Int32) (e0_4 : fs0[4]? = some (.ref h1)) (hn0 : 0 ≤ n0.toInt ∧ n0.toInt ≤ 24) (hok : okC f1 f3 f4 f5) (hme : ∀ j : Nat, (j : Int) < n0.toInt → mesP f1 f2 f3 f4 f5 f6 f7 j) : Met l yX12_clause wsX12_clause ({ frames := 4, cells := 0, slots := 0, locals := 115 }) (pWk [.ref h0, .int x1, .int x2, .int x3, .int x4] D T [(h0, .inr (9, fs0)), (h1, .inr (1, [.int n0, .ref c1, .ref c2, .ref c3, .ref c4, .ref c5, .ref c6, .ref c7])), (c1, .inl (T 0, 24, .inl f1)), (c2, .inl (T 0, 24, .inl f2)), (c3, .inl (T 0, 24, .inl f3)), (c4, .inl (T 0, 24, .inl f4)), (c5, .inl (T 0, 24, .inl f5)), (c6, .inl (T 0, 24, .inl f6)), (c7, .inl (T 0, 24, .inl f7))] sz ad sa av ta) (va_Qi (fun (r : Int32) (u : Nat → Nat → Int32) => ((0 ≤ (u 0 0).toInt ∧ (u 0 0).toInt ≤ 24) ∧ okC (u 1) (u 3) (u 4) (u 5)) ∧ clauseC n0 x1 x2 x3 x4 r (u 0 0) f1 f2 f3 f4 (u 1) (u 2) (u 3) (u 4) ∧ (∀ j : Nat, (j : Int) < (u 0 0).toInt → mesP (u 1) (u 2) (u 3) (u 4) (u 5) (u 6) (u 7) j)) (bW D (va_A [(h0, .inr (9, fs0)), (h1, .inr (1, [.int n0, .ref c1, .ref c2, .ref c3, .ref c4, .ref c5, .ref c6, .ref c7])), (c1, .inl (T 0, 24, .inl f1)), (c2, .inl (T 0, 24, .inl f2)), (c3, .inl (T 0, 24, .inl f3)), (c4, .inl (T 0, 24, .inl f4)), (c5, .inl (T 0, 24, .inl f5)), (c6, .inl (T 0, 24, .inl f6)), (c7, .inl (T 0, 24, .inl f7))] sz) (fun (u : Nat → Nat → Int32) => [(h0, .inr (9, fs0)), (h1, .inr (1, [.int (u 0 0), .ref c1, .ref c2, .ref c3, .ref c4, .ref c5, .ref c6, .ref c7])), (c1, .inl (T 0, 24, .inl (u 1))), (c2, .inl (T 0, 24, .inl (u 2))), (c3, .inl (T 0, 24, .inl (u 3))), (c4, .inl (T 0, 24, .inl (u 4))), (c5, .inl (T 0, 24, .inl (u 5))), (c6, .inl (T 0, 24, .inl (u 6))), (c7, .inl (T 0, 24, .inl (u 7)))])) (va_A [(h0, .inr (9, fs0)), (h1, .inr (1, [.int n0, .ref c1, .ref c2, .ref c3, .ref c4, .ref c5, .ref c6, .ref c7])), (c1, .inl (T 0, 24, .inl f1)), (c2, .inl (T 0, 24, .inl f2)), (c3, .inl (T 0, 24, .inl f3)), (c4, .inl (T 0, 24, .inl f4)), (c5, .inl (T 0, 24, .inl f5)), (c6, .inl (T 0, 24, .inl f6)), (c7, .inl (T 0, 24, .inl f7))] sz)) 0 0 (va_A [(h0, .inr (9, fs0)), (h1, .inr (1, [.int n0, .ref c1, .ref c2, .ref c3, .ref c4, .ref c5, .ref c6, .ref c7])), (c1, .inl (T 0, 24, .inl f1)), (c2, .inl (T 0, 24, .inl f2)), (c3, .inl (T 0, 24, .inl f3)), (c4, .inl (T 0, 24, .inl f4)), (c5, .inl (T 0, 24, .inl f5)), (c6, .inl (T 0, 24, .inl f6)), (c7, .inl (T 0, 24, .inl f7))] sz) := by
  refine Met.ofW (cc := cX12_clause) (maxL := 6) (ret := (some .int)) (by decide +kernel) rfl ?_
  intro p e s m args below meth c s₁ B hml hv
  obtain ⟨rfl, hsz, hP, hE, hD0, hV⟩ := hv
  have hx := B.exec
  have hb := B.bytes
  have hr := B.returns
  have hts := atoms_spec (ws := wsX12_clause) B.pre
  have hown : s.vm.findClass RX12 = some m.cls := findClass_of_methodNamed B.named
  have hlocks := B.notSynchronized
  subst hsz
  have hD := hD0.self (sz := s.heap.size)
  generalize hAe : va_A [(h0, .inr (9, fs0)), (h1, .inr (1, [.int n0, .ref c1, .ref c2, .ref c3, .ref c4, .ref c5, .ref c6, .ref c7])), (c1, .inl (T 0, 24, .inl f1)), (c2, .inl (T 0, 24, .inl f2)), (c3, .inl (T 0, 24, .inl f3)), (c4, .inl (T 0, 24, .inl f4)), (c5, .inl (T 0, 24, .inl f5)), (c6, .inl (T 0, 24, .inl f6)), (c7, .inl (T 0, 24, .inl f7))] s.heap.size = A at hD hV ⊢
  have hA : ∀ q : Nat, s.heap.size ≤ q → A q := fun q h => by rw [← hAe]; exact Or.inr h
  have hS : va_S A s.heap s.heap [] := va_S.rf
  have hP : va_P D vwCl [(h0, .inr (9, fs0)), (h1, .inr (1, [.int n0, .ref c1, .ref c2, .ref c3, .ref c4, .ref c5, .ref c6, .ref c7])), (c1, .inl (T 0, 24, .inl f1)), (c2, .inl (T 0, 24, .inl f2)), (c3, .inl (T 0, 24, .inl f3)), (c4, .inl (T 0, 24, .inl f4)), (c5, .inl (T 0, 24, .inl f5)), (c6, .inl (T 0, 24, .inl f6)), (c7, .inl (T 0, 24, .inl f7))] s.heap := hP
  have hl := lv_entry ([.ref h0, .int x1, .int x2, .int x3, .int x4]) (n := 6) (Nat.le_of_ble_eq_true rfl)
  rw [lg_entry_eq]
  generalize (lg_sl ([.ref h0, .int x1, .int x2, .int x3, .int x4]) ++ List.replicate (6 - (lg_sl ([.ref h0, .int x1, .int x2, .int x3, .int x4])).length) Slot.unset).toArray = ls at hl ⊢
  have hl : lv_has ls 6 [(0, .ref h0), (1, .int x1), (2, .int x2), (3, .int x3), (4, .int x4)] := hl
  clear hD0
  refine lv_iload_n hx hb dX12_clause_0 rfl (lv_at hl 1 rfl) ?_
  refine lv_iconst (v := 0) hx hb dX12_clause_1 (by decide +kernel) ?_
  refine va_getsN (v := .ref ta) hx hb hV.1.2.1 hS hown (va_Nw.use rfl (hE.2.2.1 (RX12, 126) (List.mem_of_getElem? (i := 0) rfl))) (fun _ h9 => h9) dX12_clause_2 ?_
  refine va_tlen (v := 13) hx hb hV.1.2.2 hS rfl dX12_clause_5 ?_
  refine lv_iconst (v := 1) hx hb dX12_clause_6 (by decide +kernel) ?_
  refine lv_isub hx hb dX12_clause_7 ?_
  refine lv_topi (fun z_1 ez_1 => ?_)
  obtain rfl : z_1 = 12 := ez_1.trans (by decide +kernel)
  refine vp_callSi (W.runS (As := [.int x1, .int 0, .int 12]) (rest := []) ⟨hx, hb, hml, hown, hts⟩ (c_X12_within l D T x1 0 12 0 12 (by decide +kernel) (by decide +kernel)) (va_cwS 3 hts gX12_clause_X12_within rfl rfl rfl hs_X12_within ⟨Nat.le_of_ble_eq_true rfl, Nat.le_of_ble_eq_true rfl⟩) (pR_S hP hE [] rfl) rfl rfl hl.1 rfl (lv_room (Nat.le_of_ble_eq_true rfl)) dX12_clause_8 ⟨Nat.le_of_ble_eq_true rfl, Nat.le_of_ble_eq_true rfl⟩) (fun r_2 hr_2 => ?_)
  rcases bool_post hr_2 with ⟨c_3, rfl⟩ | ⟨c_3, rfl⟩
  · refine lv_if_ne (tgt := 17) hx hb dX12_clause_11 (by decide +kernel) (fun _ => ?_) (fun c9 => absurd c9 (by decide +kernel))
    have hk13 : x1.toNatClampNeg < 13 := in13c (by omega)
    refine va_getsN (v := .ref ta) hx hb hV.1.2.1 hS hown (va_Nw.use rfl (hE.2.2.1 (RX12, 126) (List.mem_of_getElem? (i := 0) rfl))) (fun _ h9 => h9) dX12_clause_17 ?_
    refine lv_iload_n hx hb dX12_clause_20 rfl (lv_at hl 1 rfl) ?_
    refine vb_tq (v := .ref (ad (x1.toNatClampNeg))) hx hb hV.1.2.2 hS (by rw [vp_in_iff]; omega) rfl dX12_clause_21 ?_
    refine lv_astore (lv' := [(5, .ref (ad (x1.toNatClampNeg))), (0, .ref h0), (1, .int x1), (2, .int x2), (3, .int x3), (4, .int x4)]) hx hb dX12_clause_22 hl (by decide +kernel) rfl (fun ls hl => ?_)
    refine lv_iload_n hx hb dX12_clause_24 rfl (lv_at hl 3 rfl) ?_
    refine lv_aload hx hb dX12_clause_25 (lv_at hl 0 rfl) ?_
    refine va_getE (i := (x1.toNatClampNeg)) hx hb hV.1.1 hk13 hS hown (q := kdQ "least" [0, 0, 0, -9, 0, 0, 0, 0, 0, 0, 0, 0, -99]) (List.mem_of_getElem? (i := 1) rfl) (hts (.fieldLink RX12 132 "ClauseBook$Kind" "least" "I") (List.mem_of_getElem? (i := 1) rfl)) (fun _ h9 => h9) dX12_clause_27 ?_
    refine W.eq (g2 := F0 m 30 ls [.int (lsT (x1.toNatClampNeg)), .int x2]) rfl ?_
    refine lv_aload hx hb dX12_clause_30 (lv_at hl 0 rfl) ?_
    refine va_getE (i := (x1.toNatClampNeg)) hx hb hV.1.1 hk13 hS hown (q := kdQ "most" [0, 0, 0, 9, 0, 0, 0, 0, 6, 0, 0, 0, 99]) (List.mem_of_getElem? (i := 2) rfl) (hts (.fieldLink RX12 135 "ClauseBook$Kind" "most" "I") (List.mem_of_getElem? (i := 2) rfl)) (fun _ h9 => h9) dX12_clause_32 ?_
    refine W.eq (g2 := F0 m 35 ls [.int (msT (x1.toNatClampNeg)), .int (lsT (x1.toNatClampNeg)), .int x2]) rfl ?_
    refine vp_callSi (W.runS (As := [.int x2, .int (lsT (x1.toNatClampNeg)), .int (msT (x1.toNatClampNeg))]) (rest := []) ⟨hx, hb, hml, hown, hts⟩ (c_X12_within l D T x2 (lsT (x1.toNatClampNeg)) (msT (x1.toNatClampNeg)) ((lsT (x1.toNatClampNeg))).toInt ((msT (x1.toNatClampNeg))).toInt rfl rfl) (va_cwS 3 hts gX12_clause_X12_within rfl rfl rfl hs_X12_within ⟨Nat.le_of_ble_eq_true rfl, Nat.le_of_ble_eq_true rfl⟩) (pR_S hP hE [] rfl) rfl rfl hl.1 rfl (lv_room (Nat.le_of_ble_eq_true rfl)) dX12_clause_35 ⟨Nat.le_of_ble_eq_true rfl, Nat.le_of_ble_eq_true rfl⟩) (fun r_4 hr_4 => ?_)
    rcases bool_post hr_4 with ⟨c_5, rfl⟩ | ⟨c_5, rfl⟩
    · refine lv_if_eq (tgt := 59) hx hb dX12_clause_38 (by decide +kernel) (fun c9 => absurd c9 (by decide +kernel)) (fun _ => ?_)
      refine lv_aload hx hb dX12_clause_41 (lv_at hl 0 rfl) ?_
      refine lv_iload_n hx hb dX12_clause_43 rfl (lv_at hl 4 rfl) ?_
      refine lv_iload hx hb dX12_clause_44 (lv_at hl 5 rfl) ?_
      refine lv_aload_n hx hb dX12_clause_46 rfl (lv_at hl 1 rfl) ?_
      refine va_get (D := D) (ci := 9) (v := .ref h1) (C := RX12) (T := TX12) (N := 11) hx hb hts in_X12_clause_X12 hown hE.1 hP 0 rfl rfl 4 (by decide +kernel) (hts (.fieldLink RX12 32 "ClauseBook" "clauses" "LClauseBook$Clauses;") (List.mem_of_getElem? (i := 3) rfl)) (fun _ h9 => h9) e0_4 dX12_clause_47 ?_
      refine va_get (D := D) (ci := 1) (v := .int n0) (C := RX2) (T := TX2) (N := 8) hx hb hts in_X12_clause_X2 hown hE.1 hP 1 rfl rfl 0 (by decide +kernel) (hts (.fieldLink RX12 138 "ClauseBook$Clauses" "size" "I") (List.mem_of_getElem? (i := 4) rfl)) (fun _ h9 => h9) rfl dX12_clause_50 ?_
      refine vp_callSi (W.runV (As := [.int x3, .int x4, .int n0]) (rest := []) ⟨hx, hb, hml, hown, hts⟩ (c_X7_mayName l D T ad sa av ta (x1.toNatClampNeg) x3 x4 n0 hk13 (by omega)) (cwV 3 hts gX12_clause_X7_mayName rfl rfl rfl hv_X7_mayName ⟨Nat.le_of_ble_eq_true rfl, Nat.le_of_ble_eq_true rfl⟩) (pRk_VE (i := (x1.toNatClampNeg)) hk13 hP hE hV hS [] rfl) rfl rfl hl.1 rfl (lv_room (Nat.le_of_ble_eq_true rfl)) dX12_clause_53 ⟨Nat.le_of_ble_eq_true rfl, Nat.le_of_ble_eq_true rfl⟩) (fun r_6 hr_6 => ?_)
      rcases bool_post hr_6 with ⟨c_7, rfl⟩ | ⟨c_7, rfl⟩
      · refine lv_if_ne (tgt := 62) hx hb dX12_clause_56 (by decide +kernel) (fun _ => ?_) (fun c9 => absurd c9 (by decide +kernel))
        refine lv_aload_n hx hb dX12_clause_62 rfl (lv_at hl 1 rfl) ?_
        refine va_get (D := D) (ci := 9) (v := .ref h1) (C := RX12) (T := TX12) (N := 11) hx hb hts in_X12_clause_X12 hown hE.1 hP 0 rfl rfl 4 (by decide +kernel) (hts (.fieldLink RX12 32 "ClauseBook" "clauses" "LClauseBook$Clauses;") (List.mem_of_getElem? (i := 3) rfl)) (fun _ h9 => h9) e0_4 dX12_clause_63 ?_
        refine va_get (D := D) (ci := 1) (v := .int n0) (C := RX2) (T := TX2) (N := 8) hx hb hts in_X12_clause_X2 hown hE.1 hP 1 rfl rfl 0 (by decide +kernel) (hts (.fieldLink RX12 138 "ClauseBook$Clauses" "size" "I") (List.mem_of_getElem? (i := 4) rfl)) (fun _ h9 => h9) rfl dX12_clause_66 ?_
        refine lv_bipush (v := 24) hx hb dX12_clause_69 (by decide +kernel) ?_
        refine lv_icmp_lt (tgt := 77) hx hb dX12_clause_71 (by decide +kernel) (fun c_8 => ?_) (fun c_8 => ?_)
        · rw [fa_lt] at c_8
          try rw [ti_24] at c_8
          refine lv_aload_n hx hb dX12_clause_77 rfl (lv_at hl 1 rfl) ?_
          refine va_get (D := D) (ci := 9) (v := .ref h1) (C := RX12) (T := TX12) (N := 11) hx hb hts in_X12_clause_X12 hown hE.1 hP 0 rfl rfl 4 (by decide +kernel) (hts (.fieldLink RX12 32 "ClauseBook" "clauses" "LClauseBook$Clauses;") (List.mem_of_getElem? (i := 3) rfl)) (fun _ h9 => h9) e0_4 dX12_clause_78 ?_
          refine lv_iload_n hx hb dX12_clause_81 rfl (lv_at hl 2 rfl) ?_
          refine lv_iload_n hx hb dX12_clause_82 rfl (lv_at hl 3 rfl) ?_
          refine lv_iload_n hx hb dX12_clause_83 rfl (lv_at hl 4 rfl) ?_
          refine lv_iload hx hb dX12_clause_84 (lv_at hl 5 rfl) ?_
          have hFc := va_free (wc := [(h1, .inr (1, [.int n0, .ref c1, .ref c2, .ref c3, .ref c4, .ref c5, .ref c6, .ref c7])), (c1, .inl (T 0, 24, .inl f1)), (c2, .inl (T 0, 24, .inl f2)), (c3, .inl (T 0, 24, .inl f3)), (c4, .inl (T 0, 24, .inl f4)), (c5, .inl (T 0, 24, .inl f5)), (c6, .inl (T 0, 24, .inl f6)), (c7, .inl (T 0, 24, .inl f7))]) hD hS hA [1, 2, 3, 4, 5, 6, 7, 8] rfl
          refine va_calli (va_runV (As := [.int x1, .int x2, .int x3, .int x4]) (rest := []) ⟨hx, hb, hml, hown, hts⟩ (c_X2_append l D T ad sa av ta _ h1 n0 c1 c2 c3 c4 c5 c6 c7 f1 f2 f3 f4 f5 f6 f7 x1 x2 x3 x4 (by omega) hok (by omega) (fun a => by omega) (fun a => by omega) hme) (cwV 4 hts gX12_clause_X2_append rfl rfl rfl hv_X2_append ⟨Nat.le_of_ble_eq_true rfl, Nat.le_of_ble_eq_true rfl⟩) (pWk_V (q := (RX2, TX2, 8)) (ci := 1) (q0 := 1) hP hE hD hV hS hFc rfl rfl [1, 2, 3, 4, 5, 6, 7, 8] (by decide +kernel) rfl rfl) rfl rfl hl.1 rfl (lv_room (Nat.le_of_ble_eq_true rfl)) dX12_clause_86 ⟨Nat.le_of_ble_eq_true rfl, Nat.le_of_ble_eq_true rfl⟩) hS (fun q _ h => hFc q h) hFc (fun r_9 u_10 t H1 locs ht hvm hr_9 hB hz1 hk1 hS => ?_)
          obtain ⟨haru_10, ⟨hszu_10, hok⟩, hapu_10, hme⟩ := hr_9
          have hapu_10 : ((n0.toInt < 24 → (u_10 1) = upd f1 (n0.toNatClampNeg) x1 ∧ (u_10 2) = upd f2 (n0.toNatClampNeg) x2 ∧ (u_10 3) = upd f3 (n0.toNatClampNeg) (if 1 ≤ (nmT (x1.toNatClampNeg)).toInt then x3 else -1) ∧ (u_10 4) = upd f4 (n0.toNatClampNeg) (if (nmT (x1.toNatClampNeg)).toInt = 2 then x4 else -1)) ∧ (¬ n0.toInt < 24 → (u_10 1) = f1 ∧ (u_10 2) = f2 ∧ (u_10 3) = f3 ∧ (u_10 4) = f4)) := hapu_10
          have hme : (∀ j : Nat, (j : Int) < (u_10 0 0).toInt → mesP (u_10 1) (u_10 2) (u_10 3) (u_10 4) (u_10 5) (u_10 6) (u_10 7) j) := hme
          obtain ⟨hP1, hD1⟩ := hB
          rw [ht] at hP1
          obtain ⟨hP, hD⟩ := va_repl [(h0, .inr (9, fs0)), (h1, .inr (1, [.int (u_10 0 0), .ref c1, .ref c2, .ref c3, .ref c4, .ref c5, .ref c6, .ref c7])), (c1, .inl (T 0, 24, .inl (u_10 1))), (c2, .inl (T 0, 24, .inl (u_10 2))), (c3, .inl (T 0, 24, .inl (u_10 3))), (c4, .inl (T 0, 24, .inl (u_10 4))), (c5, .inl (T 0, 24, .inl (u_10 5))), (c6, .inl (T 0, 24, .inl (u_10 6))), (c7, .inl (T 0, 24, .inl (u_10 7)))] hP hD [1, 2, 3, 4, 5, 6, 7, 8] [1, 2, 3, 4, 5, 6, 7, 8] rfl (by decide +kernel) rfl rfl rfl hk1 hP1
          clear hP1 hD1 hFc
          generalize H1 = H at hP hS ⊢
          obtain ⟨hr9, hr8, hr7⟩ := haru_10.resolve_left (by intro h9; omega)
          exact W.iret hx hb hr (fun t ht hW => ⟨⟨_, (fun k => [fun _ => (u_10 0 0), (u_10 1), (u_10 2), (u_10 3), (u_10 4), (u_10 5), (u_10 6), (u_10 7)].getD k f1), rfl, ⟨⟨(show 0 ≤ ((u_10 0 0)).toInt ∧ ((u_10 0 0)).toInt ≤ 24 from by omega), (show okC (u_10 1) (u_10 3) (u_10 4) (u_10 5) from by first | exact hok | assumption)⟩, (Or.inr (Or.inr ⟨⟨by omega, by omega, by assumption⟩, (by omega), hr8, hr7, (hapu_10.1 (by omega)).1, (hapu_10.1 (by omega)).2.1, (hapu_10.1 (by omega)).2.2.1, (hapu_10.1 (by omega)).2.2.2⟩)), hme⟩, by rw [ht]; exact hP.sub [0, 1, 2, 3, 4, 5, 6, 7, 8] rfl, hD.sub [0, 1, 2, 3, 4, 5, 6, 7, 8] (by decide +kernel) rfl⟩, hS.F ht⟩) hS.2.2 dX12_clause_89
        · rw [fa_lt] at c_8
          try rw [ti_24] at c_8
          refine lv_bipush (v := (-4)) hx hb dX12_clause_74 (by decide +kernel) ?_
          exact W.iret hx hb hr (fun t ht hW => ⟨⟨_, (fun k => [fun _ => n0, f1, f2, f3, f4, f5, f6, f7].getD k f1), rfl, ⟨⟨(show 0 ≤ (n0).toInt ∧ (n0).toInt ≤ 24 from by omega), (show okC f1 f3 f4 f5 from by first | exact hok | assumption)⟩, (Or.inr (Or.inl ⟨⟨by omega, by omega, by assumption⟩, (by omega), (by decide +kernel), ⟨rfl, rfl, rfl, rfl, rfl⟩⟩)), hme⟩, by rw [ht]; exact hP.sub [0, 1, 2, 3, 4, 5, 6, 7, 8] rfl, hD.sub [0, 1, 2, 3, 4, 5, 6, 7, 8] (by decide +kernel) rfl⟩, hS.F ht⟩) hS.2.2 dX12_clause_76
      · refine lv_if_ne (tgt := 62) hx hb dX12_clause_56 (by decide +kernel) (fun c9 => absurd c9 (by decide +kernel)) (fun _ => ?_)
        refine lv_bipush (v := (-2)) hx hb dX12_clause_59 (by decide +kernel) ?_
        exact W.iret hx hb hr (fun t ht hW => ⟨⟨_, (fun k => [fun _ => n0, f1, f2, f3, f4, f5, f6, f7].getD k f1), rfl, ⟨⟨(show 0 ≤ (n0).toInt ∧ (n0).toInt ≤ 24 from by omega), (show okC f1 f3 f4 f5 from by first | exact hok | assumption)⟩, (Or.inl ⟨(fun h9 => by have h8 := h9.1; have h7 := h9.2.1; have h6 := h9.2.2; first | exact absurd h6 (by assumption) | omega), (by decide +kernel), ⟨rfl, rfl, rfl, rfl, rfl⟩⟩), hme⟩, by rw [ht]; exact hP.sub [0, 1, 2, 3, 4, 5, 6, 7, 8] rfl, hD.sub [0, 1, 2, 3, 4, 5, 6, 7, 8] (by decide +kernel) rfl⟩, hS.F ht⟩) hS.2.2 dX12_clause_61
    · refine lv_if_eq (tgt := 59) hx hb dX12_clause_38 (by decide +kernel) (fun _ => ?_) (fun c9 => absurd c9 (by decide +kernel))
      refine lv_bipush (v := (-2)) hx hb dX12_clause_59 (by decide +kernel) ?_
      exact W.iret hx hb hr (fun t ht hW => ⟨⟨_, (fun k => [fun _ => n0, f1, f2, f3, f4, f5, f6, f7].getD k f1), rfl, ⟨⟨(show 0 ≤ (n0).toInt ∧ (n0).toInt ≤ 24 from by omega), (show okC f1 f3 f4 f5 from by first | exact hok | assumption)⟩, (Or.inl ⟨(fun h9 => by have h8 := h9.1; have h7 := h9.2.1; have h6 := h9.2.2; first | exact absurd h6 (by assumption) | omega), (by decide +kernel), ⟨rfl, rfl, rfl, rfl, rfl⟩⟩), hme⟩, by rw [ht]; exact hP.sub [0, 1, 2, 3, 4, 5, 6, 7, 8] rfl, hD.sub [0, 1, 2, 3, 4, 5, 6, 7, 8] (by decide +kernel) rfl⟩, hS.F ht⟩) hS.2.2 dX12_clause_61
  · refine lv_if_ne (tgt := 17) hx hb dX12_clause_11 (by decide +kernel) (fun c9 => absurd c9 (by decide +kernel)) (fun _ => ?_)
    refine lv_bipush (v := (-2)) hx hb dX12_clause_14 (by decide +kernel) ?_
    exact W.iret hx hb hr (fun t ht hW => ⟨⟨_, (fun k => [fun _ => n0, f1, f2, f3, f4, f5, f6, f7].getD k f1), rfl, ⟨⟨(show 0 ≤ (n0).toInt ∧ (n0).toInt ≤ 24 from by omega), (show okC f1 f3 f4 f5 from by first | exact hok | assumption)⟩, (Or.inl ⟨(fun h9 => by have h8 := h9.1; have h7 := h9.2.1; have h6 := h9.2.2; first | exact absurd h6 (by assumption) | omega), (by decide +kernel), ⟨rfl, rfl, rfl, rfl, rfl⟩⟩), hme⟩, by rw [ht]; exact hP.sub [0, 1, 2, 3, 4, 5, 6, 7, 8] rfl, hD.sub [0, 1, 2, 3, 4, 5, 6, 7, 8] (by decide +kernel) rfl⟩, hS.F ht⟩) hS.2.2 dX12_clause_16
theorem dX12_swap_0 : decode cX12_swap 0 = .ok (.aload_n 0, 1) := by decide +kernel
theorem dX12_swap_1 : decode cX12_swap 1 = .ok (.getfield 32, 3) := by decide +kernel
theorem dX12_swap_11 : decode cX12_swap 11 = .ok (.aload_n 0, 1) := by decide +kernel
theorem dX12_swap_12 : decode cX12_swap 12 = .ok (.getfield 32, 3) := by decide +kernel
theorem dX12_swap_15 : decode cX12_swap 15 = .ok (.iload_n 1, 1) := by decide +kernel
theorem dX12_swap_16 : decode cX12_swap 16 = .ok (.invokevirtual 175, 3) := by decide +kernel
theorem dX12_swap_19 : decode cX12_swap 19 = .ok (.iload_n 2, 1) := by decide +kernel
theorem dX12_swap_20 : decode cX12_swap 20 = .ok (.iload_n 3, 1) := by decide +kernel
theorem dX12_swap_21 : decode cX12_swap 21 = .ok (.iload_n 1, 1) := by decide +kernel
theorem dX12_swap_22 : decode cX12_swap 22 = .ok (.invokevirtual 143, 3) := by decide +kernel
theorem dX12_swap_25 : decode cX12_swap 25 = .ok (.ifCond .ne 6, 3) := by decide +kernel
theorem dX12_swap_28 : decode cX12_swap 28 = .ok (.bipush (-2), 2) := by decide +kernel
theorem dX12_swap_30 : decode cX12_swap 30 = .ok (.ireturn, 1) := by decide +kernel
theorem dX12_swap_31 : decode cX12_swap 31 = .ok (.aload_n 0, 1) := by decide +kernel
theorem dX12_swap_32 : decode cX12_swap 32 = .ok (.getfield 32, 3) := by decide +kernel
theorem dX12_swap_35 : decode cX12_swap 35 = .ok (.iload_n 1, 1) := by decide +kernel
theorem dX12_swap_36 : decode cX12_swap 36 = .ok (.iload_n 2, 1) := by decide +kernel
theorem dX12_swap_37 : decode cX12_swap 37 = .ok (.iload_n 3, 1) := by decide +kernel
theorem dX12_swap_38 : decode cX12_swap 38 = .ok (.invokevirtual 179, 3) := by decide +kernel
theorem dX12_swap_4 : decode cX12_swap 4 = .ok (.iload_n 1, 1) := by decide +kernel
theorem dX12_swap_41 : decode cX12_swap 41 = .ok (.aload_n 0, 1) := by decide +kernel
theorem dX12_swap_42 : decode cX12_swap 42 = .ok (.getfield 43, 3) := by decide +kernel
theorem dX12_swap_45 : decode cX12_swap 45 = .ok (.invokevirtual 93, 3) := by decide +kernel
theorem dX12_swap_48 : decode cX12_swap 48 = .ok (.iconst 1, 1) := by decide +kernel
theorem dX12_swap_49 : decode cX12_swap 49 = .ok (.ireturn, 1) := by decide +kernel
theorem dX12_swap_5 : decode cX12_swap 5 = .ok (.invokevirtual 150, 3) := by decide +kernel
theorem dX12_swap_8 : decode cX12_swap 8 = .ok (.ifCond .eq 20, 3) := by decide +kernel
set_option maxRecDepth 20000 in
theorem ggX12_swap_X11_forget : GoodIn wsX12_swap wsX11_forget := goodIn_r _ [51, 52, 72, 73, 74, 75, 76, 77] rfl (by decide +kernel)
set_option maxRecDepth 20000 in
theorem ggX12_swap_X2_has : GoodIn wsX12_swap wsX2_has := goodIn_r _ [7, 8, 9, 10, 11, 64, 65, 66, 67, 68, 69, 70, 71] rfl (by decide +kernel)
set_option maxRecDepth 20000 in
theorem ggX12_swap_X2_kindOf : GoodIn wsX12_swap wsX2_kindOf := goodIn_r _ [15, 16, 64, 65, 66, 67, 68, 69, 70, 71] rfl (by decide +kernel)
set_option maxRecDepth 20000 in
theorem ggX12_swap_X2_rename : GoodIn wsX12_swap wsX2_rename := goodIn_r _ [26, 27, 28, 29, 8, 30, 13, 14, 6, 15, 16, 31, 32, 33, 34, 35, 36, 37, 38, 39, 40, 41, 42, 43, 44, 45, 46, 64, 65, 66, 67, 68, 69, 70, 71] rfl (by decide +kernel)
set_option maxRecDepth 20000 in
theorem ggX12_swap_X7_mayName : GoodIn wsX12_swap wsX7_mayName := goodIn_r _ [21, 22, 9, 10, 11] rfl (by decide +kernel)
set_option maxRecDepth 20000 in
theorem gX12_swap_X11_forget : GoodIn wsX12_swap (wsV RX12 93 RX11 yX11_forget wsX11_forget) := goodIn_app (goodIn_r _ [47, 48, 49, 50] rfl (by decide +kernel)) ggX12_swap_X11_forget
set_option maxRecDepth 20000 in
theorem gX12_swap_X2_has : GoodIn wsX12_swap (wsV RX12 150 RX2 yX2_has wsX2_has) := goodIn_app (goodIn_r _ [3, 4, 5, 6] rfl (by decide +kernel)) ggX12_swap_X2_has
set_option maxRecDepth 20000 in
theorem gX12_swap_X2_kindOf : GoodIn wsX12_swap (wsV RX12 175 RX2 yX2_kindOf wsX2_kindOf) := goodIn_app (goodIn_r _ [12, 13, 14, 6] rfl (by decide +kernel)) ggX12_swap_X2_kindOf
set_option maxRecDepth 20000 in
theorem gX12_swap_X2_rename : GoodIn wsX12_swap (wsV RX12 179 RX2 yX2_rename wsX2_rename) := goodIn_app (goodIn_r _ [23, 24, 25, 6] rfl (by decide +kernel)) ggX12_swap_X2_rename
set_option maxRecDepth 20000 in
theorem gX12_swap_X7_mayName : GoodIn wsX12_swap (wsV RX12 143 RX7 yX7_mayName wsX7_mayName) := goodIn_app (goodIn_r _ [17, 18, 19, 20] rfl (by decide +kernel)) ggX12_swap_X7_mayName
set_option maxRecDepth 20000 in
theorem in_X12_swap_X12 : ∀ w ∈ wsX120, w ∈ wsX12_swap := sub_r [53, 54, 55, 56, 57, 58, 59, 60, 61, 62, 63] rfl
set_option maxHeartbeats 4000000 in
set_option maxRecDepth 100000 in
theorem c_X12_swap (l : Launch) (D : va_G) (T : Nat → ClassId) (ad sa av : Nat → Nat) (ta : Nat) (sz : Nat) (h0 : Nat) (h1 : Nat) (h2 : Nat) (fs0 : List Value) (n0 : Int32) (c1 : Nat) (c2 : Nat) (c3 : Nat) (c4 : Nat) (c5 : Nat) (c6 : Nat) (c7 : Nat) (f1 : Nat → Int32) (f2 : Nat → Int32) (f3 : Nat → Int32) (f4 : Nat → Int32) (f5 : Nat → Int32) (f6 : Nat → Int32) (f7 : Nat → Int32) (v0 : Value) (v1 : Value) (v2 : Value) (v3 : Value) (v4 : Value) (n : Int32) (x1 : Int32) (x2 : Int32) (x3 : Int32) (e0_4 : fs0[4]? = some (.ref h1)) (e0_6 : fs0[6]? = some (.ref h2)) (hn0 : 0 ≤ n0.toInt ∧ n0.toInt ≤ 24) (hok : okC f1 f3 f4 f5) (hme : ∀ j : Nat, (j : Int) < n0.toInt → mesP f1 f2 f3 f4 f5 f6 f7 j) : Met l yX12_swap wsX12_swap ({ frames := 3, cells := 0, slots := 0, locals := 90 }) (pWk [.ref h0, .int x1, .int x2, .int x3] D T [(h0, .inr (9, fs0)), (h1, .inr (1, [.int n0, .ref c1, .ref c2, .ref c3, .ref c4, .ref c5, .ref c6, .ref c7])), (c1, .inl (T 0, 24, .inl f1)), (c2, .inl (T 0, 24, .inl f2)), (c3, .inl (T 0, 24, .inl f3)), (c4, .inl (T 0, 24, .inl f4)), (c5, .inl (T 0, 24, .inl f5)), (c6, .inl (T 0, 24, .inl f6)), (c7, .inl (T 0, 24, .inl f7)), (h2, .inr (8, [v0, v1, v2, v3, v4, .int n]))] sz ad sa av ta) (va_Qi (fun (r : Int32) (u : Nat → Nat → Int32) => ((0 ≤ (u 0 0).toInt ∧ (u 0 0).toInt ≤ 24) ∧ okC (u 1) (u 3) (u 4) (u 5)) ∧ swapC n0 x1 x2 x3 r (u 0 0) f1 f2 f3 f4 (u 1) (u 2) (u 3) (u 4) ∧ (∀ j : Nat, (j : Int) < (u 0 0).toInt → mesP (u 1) (u 2) (u 3) (u 4) (u 5) (u 6) (u 7) j) ∧ agW ((u 0 0) = n0 ∧ (u 1) = f1 ∧ (u 2) = f2 ∧ (u 3) = f3 ∧ (u 4) = f4 ∧ (u 5) = f5) n (u 8 0)) (bW D (va_A [(h0, .inr (9, fs0)), (h1, .inr (1, [.int n0, .ref c1, .ref c2, .ref c3, .ref c4, .ref c5, .ref c6, .ref c7])), (c1, .inl (T 0, 24, .inl f1)), (c2, .inl (T 0, 24, .inl f2)), (c3, .inl (T 0, 24, .inl f3)), (c4, .inl (T 0, 24, .inl f4)), (c5, .inl (T 0, 24, .inl f5)), (c6, .inl (T 0, 24, .inl f6)), (c7, .inl (T 0, 24, .inl f7)), (h2, .inr (8, [v0, v1, v2, v3, v4, .int n]))] sz) (fun (u : Nat → Nat → Int32) => [(h0, .inr (9, fs0)), (h1, .inr (1, [.int (u 0 0), .ref c1, .ref c2, .ref c3, .ref c4, .ref c5, .ref c6, .ref c7])), (c1, .inl (T 0, 24, .inl (u 1))), (c2, .inl (T 0, 24, .inl (u 2))), (c3, .inl (T 0, 24, .inl (u 3))), (c4, .inl (T 0, 24, .inl (u 4))), (c5, .inl (T 0, 24, .inl (u 5))), (c6, .inl (T 0, 24, .inl (u 6))), (c7, .inl (T 0, 24, .inl (u 7))), (h2, .inr (8, [v0, v1, v2, v3, v4, .int (u 8 0)]))])) (va_A [(h0, .inr (9, fs0)), (h1, .inr (1, [.int n0, .ref c1, .ref c2, .ref c3, .ref c4, .ref c5, .ref c6, .ref c7])), (c1, .inl (T 0, 24, .inl f1)), (c2, .inl (T 0, 24, .inl f2)), (c3, .inl (T 0, 24, .inl f3)), (c4, .inl (T 0, 24, .inl f4)), (c5, .inl (T 0, 24, .inl f5)), (c6, .inl (T 0, 24, .inl f6)), (c7, .inl (T 0, 24, .inl f7)), (h2, .inr (8, [v0, v1, v2, v3, v4, .int n]))] sz)) 0 0 (va_A [(h0, .inr (9, fs0)), (h1, .inr (1, [.int n0, .ref c1, .ref c2, .ref c3, .ref c4, .ref c5, .ref c6, .ref c7])), (c1, .inl (T 0, 24, .inl f1)), (c2, .inl (T 0, 24, .inl f2)), (c3, .inl (T 0, 24, .inl f3)), (c4, .inl (T 0, 24, .inl f4)), (c5, .inl (T 0, 24, .inl f5)), (c6, .inl (T 0, 24, .inl f6)), (c7, .inl (T 0, 24, .inl f7)), (h2, .inr (8, [v0, v1, v2, v3, v4, .int n]))] sz) := by
  refine Met.ofW (cc := cX12_swap) (maxL := 4) (ret := (some .int)) (by decide +kernel) rfl ?_
  intro p e s m args below meth c s₁ B hml hv
  obtain ⟨rfl, hsz, hP, hE, hD0, hV⟩ := hv
  have hx := B.exec
  have hb := B.bytes
  have hr := B.returns
  have hts := atoms_spec (ws := wsX12_swap) B.pre
  have hown : s.vm.findClass RX12 = some m.cls := findClass_of_methodNamed B.named
  have hlocks := B.notSynchronized
  subst hsz
  have hD := hD0.self (sz := s.heap.size)
  generalize hAe : va_A [(h0, .inr (9, fs0)), (h1, .inr (1, [.int n0, .ref c1, .ref c2, .ref c3, .ref c4, .ref c5, .ref c6, .ref c7])), (c1, .inl (T 0, 24, .inl f1)), (c2, .inl (T 0, 24, .inl f2)), (c3, .inl (T 0, 24, .inl f3)), (c4, .inl (T 0, 24, .inl f4)), (c5, .inl (T 0, 24, .inl f5)), (c6, .inl (T 0, 24, .inl f6)), (c7, .inl (T 0, 24, .inl f7)), (h2, .inr (8, [v0, v1, v2, v3, v4, .int n]))] s.heap.size = A at hD hV ⊢
  have hA : ∀ q : Nat, s.heap.size ≤ q → A q := fun q h => by rw [← hAe]; exact Or.inr h
  have hS : va_S A s.heap s.heap [] := va_S.rf
  have hP : va_P D vwCl [(h0, .inr (9, fs0)), (h1, .inr (1, [.int n0, .ref c1, .ref c2, .ref c3, .ref c4, .ref c5, .ref c6, .ref c7])), (c1, .inl (T 0, 24, .inl f1)), (c2, .inl (T 0, 24, .inl f2)), (c3, .inl (T 0, 24, .inl f3)), (c4, .inl (T 0, 24, .inl f4)), (c5, .inl (T 0, 24, .inl f5)), (c6, .inl (T 0, 24, .inl f6)), (c7, .inl (T 0, 24, .inl f7)), (h2, .inr (8, [v0, v1, v2, v3, v4, .int n]))] s.heap := hP
  have hl := lv_entry ([.ref h0, .int x1, .int x2, .int x3]) (n := 4) (Nat.le_of_ble_eq_true rfl)
  rw [lg_entry_eq]
  generalize (lg_sl ([.ref h0, .int x1, .int x2, .int x3]) ++ List.replicate (4 - (lg_sl ([.ref h0, .int x1, .int x2, .int x3])).length) Slot.unset).toArray = ls at hl ⊢
  have hl : lv_has ls 4 [(0, .ref h0), (1, .int x1), (2, .int x2), (3, .int x3)] := hl
  clear hD0
  refine lv_aload_n hx hb dX12_swap_0 rfl (lv_at hl 0 rfl) ?_
  refine va_get (D := D) (ci := 9) (v := .ref h1) (C := RX12) (T := TX12) (N := 11) hx hb hts in_X12_swap_X12 hown hE.1 hP 0 rfl rfl 4 (by decide +kernel) (hts (.fieldLink RX12 32 "ClauseBook" "clauses" "LClauseBook$Clauses;") (List.mem_of_getElem? (i := 1) rfl)) (fun _ h9 => h9) e0_4 dX12_swap_1 ?_
  refine lv_iload_n hx hb dX12_swap_4 rfl (lv_at hl 1 rfl) ?_
  refine vp_callSi (W.runV (As := [.int x1]) (rest := []) ⟨hx, hb, hml, hown, hts⟩ (c_X2_has l D T h1 [.int n0, .ref c1, .ref c2, .ref c3, .ref c4, .ref c5, .ref c6, .ref c7] x1 n0 rfl (by omega)) (cwV 1 hts gX12_swap_X2_has rfl rfl rfl hv_X2_has ⟨Nat.le_of_ble_eq_true rfl, Nat.le_of_ble_eq_true rfl⟩) (pR_V (q := (RX2, TX2, 8)) (ci := 1) (q0 := 1) hP hE rfl rfl [1] rfl) rfl rfl hl.1 rfl (lv_room (Nat.le_of_ble_eq_true rfl)) dX12_swap_5 ⟨Nat.le_of_ble_eq_true rfl, Nat.le_of_ble_eq_true rfl⟩) (fun r_1 hr_1 => ?_)
  rcases bool_post hr_1 with ⟨c_2, rfl⟩ | ⟨c_2, rfl⟩
  · refine lv_if_eq (tgt := 28) hx hb dX12_swap_8 (by decide +kernel) (fun c9 => absurd c9 (by decide +kernel)) (fun _ => ?_)
    refine lv_aload_n hx hb dX12_swap_11 rfl (lv_at hl 0 rfl) ?_
    refine va_get (D := D) (ci := 9) (v := .ref h1) (C := RX12) (T := TX12) (N := 11) hx hb hts in_X12_swap_X12 hown hE.1 hP 0 rfl rfl 4 (by decide +kernel) (hts (.fieldLink RX12 32 "ClauseBook" "clauses" "LClauseBook$Clauses;") (List.mem_of_getElem? (i := 1) rfl)) (fun _ h9 => h9) e0_4 dX12_swap_12 ?_
    refine lv_iload_n hx hb dX12_swap_15 rfl (lv_at hl 1 rfl) ?_
    refine va_cse (W.runV (As := [.int x1]) (rest := []) ⟨hx, hb, hml, hown, hts⟩ (c_X2_kindOf l D T ad sa av ta h1 [.int n0, .ref c1, .ref c2, .ref c3, .ref c4, .ref c5, .ref c6, .ref c7] c1 f1 x1 rfl (by omega) ((hok _ (in24 (x := x1) (by omega)).1).1)) (cwV 1 hts gX12_swap_X2_kindOf rfl rfl rfl hv_X2_kindOf ⟨Nat.le_of_ble_eq_true rfl, Nat.le_of_ble_eq_true rfl⟩) (pRk_V (q := (RX2, TX2, 8)) (ci := 1) (q0 := 1) hP hE hV hS rfl rfl [1, 2] rfl) rfl rfl hl.1 rfl (lv_room (Nat.le_of_ble_eq_true rfl)) dX12_swap_16 ⟨Nat.le_of_ble_eq_true rfl, Nat.le_of_ble_eq_true rfl⟩) (fun r_3 hr_3 => ?_)
    subst hr_3
    refine W.eq (g2 := F0 m 19 ls [.ref (ad ((f1 (x1.toNatClampNeg)).toNatClampNeg))]) rfl ?_
    refine lv_iload_n hx hb dX12_swap_19 rfl (lv_at hl 2 rfl) ?_
    refine lv_iload_n hx hb dX12_swap_20 rfl (lv_at hl 3 rfl) ?_
    refine lv_iload_n hx hb dX12_swap_21 rfl (lv_at hl 1 rfl) ?_
    refine vp_callSi (W.runV (As := [.int x2, .int x3, .int x1]) (rest := []) ⟨hx, hb, hml, hown, hts⟩ (c_X7_mayName l D T ad sa av ta ((f1 (x1.toNatClampNeg)).toNatClampNeg) x2 x3 x1 (in13c ((hok _ (in24 (x := x1) (by omega)).1).1)) (by omega)) (cwV 3 hts gX12_swap_X7_mayName rfl rfl rfl hv_X7_mayName ⟨Nat.le_of_ble_eq_true rfl, Nat.le_of_ble_eq_true rfl⟩) (pRk_VE (i := ((f1 (x1.toNatClampNeg)).toNatClampNeg)) (in13c ((hok _ (in24 (x := x1) (by omega)).1).1)) hP hE hV hS [] rfl) rfl rfl hl.1 rfl (lv_room (Nat.le_of_ble_eq_true rfl)) dX12_swap_22 ⟨Nat.le_of_ble_eq_true rfl, Nat.le_of_ble_eq_true rfl⟩) (fun r_4 hr_4 => ?_)
    rcases bool_post hr_4 with ⟨c_5, rfl⟩ | ⟨c_5, rfl⟩
    · refine lv_if_ne (tgt := 31) hx hb dX12_swap_25 (by decide +kernel) (fun _ => ?_) (fun c9 => absurd c9 (by decide +kernel))
      refine lv_aload_n hx hb dX12_swap_31 rfl (lv_at hl 0 rfl) ?_
      refine va_get (D := D) (ci := 9) (v := .ref h1) (C := RX12) (T := TX12) (N := 11) hx hb hts in_X12_swap_X12 hown hE.1 hP 0 rfl rfl 4 (by decide +kernel) (hts (.fieldLink RX12 32 "ClauseBook" "clauses" "LClauseBook$Clauses;") (List.mem_of_getElem? (i := 1) rfl)) (fun _ h9 => h9) e0_4 dX12_swap_32 ?_
      refine lv_iload_n hx hb dX12_swap_35 rfl (lv_at hl 1 rfl) ?_
      refine lv_iload_n hx hb dX12_swap_36 rfl (lv_at hl 2 rfl) ?_
      refine lv_iload_n hx hb dX12_swap_37 rfl (lv_at hl 3 rfl) ?_
      have hFc := va_free (wc := [(h1, .inr (1, [.int n0, .ref c1, .ref c2, .ref c3, .ref c4, .ref c5, .ref c6, .ref c7])), (c1, .inl (T 0, 24, .inl f1)), (c2, .inl (T 0, 24, .inl f2)), (c3, .inl (T 0, 24, .inl f3)), (c4, .inl (T 0, 24, .inl f4)), (c5, .inl (T 0, 24, .inl f5)), (c6, .inl (T 0, 24, .inl f6)), (c7, .inl (T 0, 24, .inl f7))]) hD hS hA [1, 2, 3, 4, 5, 6, 7, 8] rfl
      refine va_callv (va_runV (As := [.int x1, .int x2, .int x3]) (rest := []) ⟨hx, hb, hml, hown, hts⟩ (c_X2_rename l D T ad sa av ta _ h1 n0 c1 c2 c3 c4 c5 c6 c7 f1 f2 f3 f4 f5 f6 f7 x1 x2 x3 (by omega) (by omega) (okC.W hok) (fun a => by omega) (fun a => by omega) (fun j hj => hme j (by omega))) (cwV 3 hts gX12_swap_X2_rename rfl rfl rfl hv_X2_rename ⟨Nat.le_of_ble_eq_true rfl, Nat.le_of_ble_eq_true rfl⟩) (pWk_V (q := (RX2, TX2, 8)) (ci := 1) (q0 := 1) hP hE hD hV hS hFc rfl rfl [1, 2, 3, 4, 5, 6, 7, 8] (by decide +kernel) rfl rfl) rfl rfl hl.1 rfl (lv_room (Nat.le_of_ble_eq_true rfl)) dX12_swap_38 ⟨Nat.le_of_ble_eq_true rfl, Nat.le_of_ble_eq_true rfl⟩) hS (fun q _ h => hFc q h) hFc (fun u_7 t H1 locs ht hvm hr_6 hB hz1 hk1 hS => ?_)
      have hok : okC f1 (u_7 3) (u_7 4) (u_7 5) := hr_6.1
      have hrn3 : (u_7 3) = upd f3 (x1.toNatClampNeg) (if 1 ≤ (nmT ((f1 (x1.toNatClampNeg)).toNatClampNeg)).toInt then x2 else -1) := hr_6.2.1
      have hrn4 : (u_7 4) = upd f4 (x1.toNatClampNeg) (if (nmT ((f1 (x1.toNatClampNeg)).toNatClampNeg)).toInt = 2 then x3 else -1) := hr_6.2.2.1
      have hme : ∀ j : Nat, (j : Int) < n0.toInt → mesP f1 f2 (u_7 3) (u_7 4) (u_7 5) (u_7 6) (u_7 7) j := hr_6.2.2.2
      obtain ⟨hP1, hD1⟩ := hB
      rw [ht] at hP1
      obtain ⟨hP, hD⟩ := va_repl [(h0, .inr (9, fs0)), (h1, .inr (1, [.int n0, .ref c1, .ref c2, .ref c3, .ref c4, .ref c5, .ref c6, .ref c7])), (c1, .inl (T 0, 24, .inl f1)), (c2, .inl (T 0, 24, .inl f2)), (c3, .inl (T 0, 24, .inl (u_7 3))), (c4, .inl (T 0, 24, .inl (u_7 4))), (c5, .inl (T 0, 24, .inl (u_7 5))), (c6, .inl (T 0, 24, .inl (u_7 6))), (c7, .inl (T 0, 24, .inl (u_7 7))), (h2, .inr (8, [v0, v1, v2, v3, v4, .int n]))] hP hD [1, 2, 3, 4, 5, 6, 7, 8] [1, 2, 3, 4, 5, 6, 7, 8] rfl (by decide +kernel) rfl rfl rfl hk1 hP1
      clear hP1 hD1 hFc
      generalize H1 = H at hP hS ⊢
      refine lv_aload_n hx hb dX12_swap_41 rfl (lv_at hl 0 rfl) ?_
      refine va_get (D := D) (ci := 9) (v := .ref h2) (C := RX12) (T := TX12) (N := 11) hx hb hts in_X12_swap_X12 hown hE.1 hP 0 rfl rfl 6 (by decide +kernel) (hts (.fieldLink RX12 43 "ClauseBook" "worth" "LClauseBook$Worth;") (List.mem_of_getElem? (i := 2) rfl)) (fun _ h9 => h9) e0_6 dX12_swap_42 ?_
      have hFc := va_free (wc := [(h2, .inr (8, [v0, v1, v2, v3, v4, .int n]))]) hD hS hA [9] rfl
      refine va_callv (va_runV (As := []) (rest := []) ⟨hx, hb, hml, hown, hts⟩ (c_X11_forget l D T _ h2 (v0) (v1) (v2) (v3) (v4) n) (cwV 0 hts gX12_swap_X11_forget rfl rfl rfl hv_X11_forget ⟨Nat.le_of_ble_eq_true rfl, Nat.le_of_ble_eq_true rfl⟩) (pW_V (q := (RX11, TX11, 6)) (ci := 8) (q0 := 9) hP hE hD rfl rfl [9] (by decide +kernel) rfl rfl) rfl rfl hl.1 rfl (lv_room (Nat.le_of_ble_eq_true rfl)) dX12_swap_45 ⟨Nat.le_of_ble_eq_true rfl, Nat.le_of_ble_eq_true rfl⟩) hS (fun q _ h => hFc q h) hFc (fun u_9 t H1 locs ht hvm hr_8 hB hz1 hk1 hS => ?_)
      have hag9 : u_9 = n + 1 := hr_8
      obtain ⟨hP1, hD1⟩ := hB
      rw [ht] at hP1
      obtain ⟨hP, hD⟩ := va_repl [(h0, .inr (9, fs0)), (h1, .inr (1, [.int n0, .ref c1, .ref c2, .ref c3, .ref c4, .ref c5, .ref c6, .ref c7])), (c1, .inl (T 0, 24, .inl f1)), (c2, .inl (T 0, 24, .inl f2)), (c3, .inl (T 0, 24, .inl (u_7 3))), (c4, .inl (T 0, 24, .inl (u_7 4))), (c5, .inl (T 0, 24, .inl (u_7 5))), (c6, .inl (T 0, 24, .inl (u_7 6))), (c7, .inl (T 0, 24, .inl (u_7 7))), (h2, .inr (8, [v0, v1, v2, v3, v4, .int u_9]))] hP hD [9] [9] rfl (by decide +kernel) rfl rfl rfl hk1 hP1
      clear hP1 hD1 hFc
      generalize H1 = H at hP hS ⊢
      refine lv_iconst (v := 1) hx hb dX12_swap_48 (by decide +kernel) ?_
      exact W.iret hx hb hr (fun t ht hW => ⟨⟨_, (fun k => [fun _ => n0, f1, f2, (u_7 3), (u_7 4), (u_7 5), (u_7 6), (u_7 7), fun _ => u_9].getD k f1), rfl, ⟨⟨(show 0 ≤ (n0).toInt ∧ (n0).toInt ≤ 24 from by omega), (show okC f1 (u_7 3) (u_7 4) (u_7 5) from by first | exact hok | assumption)⟩, ⟨⟨rfl, rfl, rfl⟩, Or.inr ⟨⟨by omega, by assumption⟩, (by decide +kernel), hrn3, hrn4⟩⟩, hme, (Or.inr hag9)⟩, by rw [ht]; exact hP.sub [0, 1, 2, 3, 4, 5, 6, 7, 8, 9] rfl, hD.sub [0, 1, 2, 3, 4, 5, 6, 7, 8, 9] (by decide +kernel) rfl⟩, hS.F ht⟩) hS.2.2 dX12_swap_49
    · refine lv_if_ne (tgt := 31) hx hb dX12_swap_25 (by decide +kernel) (fun c9 => absurd c9 (by decide +kernel)) (fun _ => ?_)
      refine lv_bipush (v := (-2)) hx hb dX12_swap_28 (by decide +kernel) ?_
      exact W.iret hx hb hr (fun t ht hW => ⟨⟨_, (fun k => [fun _ => n0, f1, f2, f3, f4, f5, f6, f7, fun _ => n].getD k f1), rfl, ⟨⟨(show 0 ≤ (n0).toInt ∧ (n0).toInt ≤ 24 from by omega), (show okC f1 f3 f4 f5 from by first | exact hok | assumption)⟩, ⟨⟨rfl, rfl, rfl⟩, Or.inl ⟨(fun h9 => by have h8 := h9.1; have h6 := h9.2; first | exact absurd h6 (by assumption) | omega), (by decide +kernel), rfl, rfl⟩⟩, hme, (Or.inl ⟨⟨rfl, rfl, rfl, rfl, rfl, rfl⟩, rfl⟩)⟩, by rw [ht]; exact hP.sub [0, 1, 2, 3, 4, 5, 6, 7, 8, 9] rfl, hD.sub [0, 1, 2, 3, 4, 5, 6, 7, 8, 9] (by decide +kernel) rfl⟩, hS.F ht⟩) hS.2.2 dX12_swap_30
  · refine lv_if_eq (tgt := 28) hx hb dX12_swap_8 (by decide +kernel) (fun _ => ?_) (fun c9 => absurd c9 (by decide +kernel))
    refine lv_bipush (v := (-2)) hx hb dX12_swap_28 (by decide +kernel) ?_
    exact W.iret hx hb hr (fun t ht hW => ⟨⟨_, (fun k => [fun _ => n0, f1, f2, f3, f4, f5, f6, f7, fun _ => n].getD k f1), rfl, ⟨⟨(show 0 ≤ (n0).toInt ∧ (n0).toInt ≤ 24 from by omega), (show okC f1 f3 f4 f5 from by first | exact hok | assumption)⟩, ⟨⟨rfl, rfl, rfl⟩, Or.inl ⟨(fun h9 => by have h8 := h9.1; have h6 := h9.2; first | exact absurd h6 (by assumption) | omega), (by decide +kernel), rfl, rfl⟩⟩, hme, (Or.inl ⟨⟨rfl, rfl, rfl, rfl, rfl, rfl⟩, rfl⟩)⟩, by rw [ht]; exact hP.sub [0, 1, 2, 3, 4, 5, 6, 7, 8, 9] rfl, hD.sub [0, 1, 2, 3, 4, 5, 6, 7, 8, 9] (by decide +kernel) rfl⟩, hS.F ht⟩) hS.2.2 dX12_swap_30
end
section
theorem cpy_at {g f : Nat → Int32} {n j : Nat} (h : j < n) : va_cpy g f 0 0 n j = g j := by
  simp only [va_cpy]
  rw [if_pos (by omega)]
  congr 1
  omega
theorem okC.cpy {fk fc fd fe gk gc gd ge : Nat → Int32} (h : okC gk gc gd ge) (h0 : okC fk fc fd fe) : okC (va_cpy gk fk 0 0 24) (va_cpy gc fc 0 0 24) (va_cpy gd fd 0 0 24) fe := by
  intro j hj
  rw [cpy_at hj, cpy_at hj, cpy_at hj]
  exact ⟨(h j hj).1, (h j hj).2.1, (h j hj).2.2.1, (h0 j hj).2.2.2⟩
theorem dX8_become_0 : decode cX8_become 0 = .ok (.aload_n 0, 1) := by decide +kernel
theorem dX8_become_1 : decode cX8_become 1 = .ok (.aload_n 1, 1) := by decide +kernel
theorem dX8_become_10 : decode cX8_become 10 = .ok (.getfield 13, 3) := by decide +kernel
theorem dX8_become_13 : decode cX8_become 13 = .ok (.putfield 13, 3) := by decide +kernel
theorem dX8_become_16 : decode cX8_become 16 = .ok (.aload_n 0, 1) := by decide +kernel
theorem dX8_become_17 : decode cX8_become 17 = .ok (.aload_n 1, 1) := by decide +kernel
theorem dX8_become_18 : decode cX8_become 18 = .ok (.getfield 16, 3) := by decide +kernel
theorem dX8_become_2 : decode cX8_become 2 = .ok (.getfield 7, 3) := by decide +kernel
theorem dX8_become_21 : decode cX8_become 21 = .ok (.putfield 16, 3) := by decide +kernel
theorem dX8_become_24 : decode cX8_become 24 = .ok (.aload_n 0, 1) := by decide +kernel
theorem dX8_become_25 : decode cX8_become 25 = .ok (.aload_n 1, 1) := by decide +kernel
theorem dX8_become_26 : decode cX8_become 26 = .ok (.getfield 19, 3) := by decide +kernel
theorem dX8_become_29 : decode cX8_become 29 = .ok (.putfield 19, 3) := by decide +kernel
theorem dX8_become_32 : decode cX8_become 32 = .ok (.aload_n 0, 1) := by decide +kernel
theorem dX8_become_33 : decode cX8_become 33 = .ok (.aload_n 1, 1) := by decide +kernel
theorem dX8_become_34 : decode cX8_become 34 = .ok (.getfield 22, 3) := by decide +kernel
theorem dX8_become_37 : decode cX8_become 37 = .ok (.putfield 22, 3) := by decide +kernel
theorem dX8_become_40 : decode cX8_become 40 = .ok (.aload_n 0, 1) := by decide +kernel
theorem dX8_become_41 : decode cX8_become 41 = .ok (.aload_n 1, 1) := by decide +kernel
theorem dX8_become_42 : decode cX8_become 42 = .ok (.getfield 25, 3) := by decide +kernel
theorem dX8_become_45 : decode cX8_become 45 = .ok (.putfield 25, 3) := by decide +kernel
theorem dX8_become_48 : decode cX8_become 48 = .ok (.aload_n 0, 1) := by decide +kernel
theorem dX8_become_49 : decode cX8_become 49 = .ok (.aload_n 1, 1) := by decide +kernel
theorem dX8_become_5 : decode cX8_become 5 = .ok (.putfield 7, 3) := by decide +kernel
theorem dX8_become_50 : decode cX8_become 50 = .ok (.getfield 28, 3) := by decide +kernel
theorem dX8_become_53 : decode cX8_become 53 = .ok (.putfield 28, 3) := by decide +kernel
theorem dX8_become_56 : decode cX8_become 56 = .ok (.return_, 1) := by decide +kernel
theorem dX8_become_8 : decode cX8_become 8 = .ok (.aload_n 0, 1) := by decide +kernel
theorem dX8_become_9 : decode cX8_become 9 = .ok (.aload_n 1, 1) := by decide +kernel
set_option maxRecDepth 20000 in
theorem in_X8_become_X8 : ∀ w ∈ wsX80, w ∈ wsX8_become := sub_r [8, 9, 10, 11, 12, 13, 14] rfl
set_option maxHeartbeats 4000000 in
set_option maxRecDepth 100000 in
theorem c_X8_become (l : Launch) (D : va_G) (T : Nat → ClassId) (sz : Nat) (h0 : Nat) (o1 : Nat) (l9 : Nat → Int32) (k9 : Nat → Int32)  : Met l yX8_become wsX8_become ({ frames := 0, cells := 0, slots := 0, locals := 0 }) (pW [.ref h0, .ref o1] D T [(h0, .inr (5, [.int (l9 0), .int (l9 1), .int (l9 2), .int (l9 3), .int (l9 4), .int (l9 5), .int (l9 6)])), (o1, .inr (5, [.int (k9 0), .int (k9 1), .int (k9 2), .int (k9 3), .int (k9 4), .int (k9 5), .int (k9 6)]))] sz) (va_Qv (fun (u : Unit) => True) (bW D (va_A [(h0, .inr (5, [.int (l9 0), .int (l9 1), .int (l9 2), .int (l9 3), .int (l9 4), .int (l9 5), .int (l9 6)])), (o1, .inr (5, [.int (k9 0), .int (k9 1), .int (k9 2), .int (k9 3), .int (k9 4), .int (k9 5), .int (k9 6)]))] sz) (fun (u : Unit) => [(h0, .inr (5, [.int (k9 0), .int (k9 1), .int (k9 2), .int (k9 3), .int (k9 4), .int (k9 5), .int (k9 6)])), (o1, .inr (5, [.int (k9 0), .int (k9 1), .int (k9 2), .int (k9 3), .int (k9 4), .int (k9 5), .int (k9 6)]))])) (va_A [(h0, .inr (5, [.int (l9 0), .int (l9 1), .int (l9 2), .int (l9 3), .int (l9 4), .int (l9 5), .int (l9 6)])), (o1, .inr (5, [.int (k9 0), .int (k9 1), .int (k9 2), .int (k9 3), .int (k9 4), .int (k9 5), .int (k9 6)]))] sz)) 0 0 (va_A [(h0, .inr (5, [.int (l9 0), .int (l9 1), .int (l9 2), .int (l9 3), .int (l9 4), .int (l9 5), .int (l9 6)])), (o1, .inr (5, [.int (k9 0), .int (k9 1), .int (k9 2), .int (k9 3), .int (k9 4), .int (k9 5), .int (k9 6)]))] sz) := by
  refine Met.ofW (cc := cX8_become) (maxL := 2) (ret := none) (by decide +kernel) rfl ?_
  intro p e s m args below meth c s₁ B hml hv
  obtain ⟨rfl, hsz, hP, hE, hD0⟩ := hv
  have hx := B.exec
  have hb := B.bytes
  have hr := B.returns
  have hts := atoms_spec (ws := wsX8_become) B.pre
  have hown : s.vm.findClass RX8 = some m.cls := findClass_of_methodNamed B.named
  have hlocks := B.notSynchronized
  subst hsz
  have hD := hD0.self (sz := s.heap.size)
  generalize hAe : va_A [(h0, .inr (5, [.int (l9 0), .int (l9 1), .int (l9 2), .int (l9 3), .int (l9 4), .int (l9 5), .int (l9 6)])), (o1, .inr (5, [.int (k9 0), .int (k9 1), .int (k9 2), .int (k9 3), .int (k9 4), .int (k9 5), .int (k9 6)]))] s.heap.size = A at hD ⊢
  have hA : ∀ q : Nat, s.heap.size ≤ q → A q := fun q h => by rw [← hAe]; exact Or.inr h
  have hS : va_S A s.heap s.heap [] := va_S.rf
  have hP : va_P D vwCl [(h0, .inr (5, [.int (l9 0), .int (l9 1), .int (l9 2), .int (l9 3), .int (l9 4), .int (l9 5), .int (l9 6)])), (o1, .inr (5, [.int (k9 0), .int (k9 1), .int (k9 2), .int (k9 3), .int (k9 4), .int (k9 5), .int (k9 6)]))] s.heap := hP
  have hl := lv_entry ([.ref h0, .ref o1]) (n := 2) (Nat.le_of_ble_eq_true rfl)
  rw [lg_entry_eq]
  generalize (lg_sl ([.ref h0, .ref o1]) ++ List.replicate (2 - (lg_sl ([.ref h0, .ref o1])).length) Slot.unset).toArray = ls at hl ⊢
  have hl : lv_has ls 2 [(0, .ref h0), (1, .ref o1)] := hl
  clear hD0
  refine lv_aload_n hx hb dX8_become_0 rfl (lv_at hl 0 rfl) ?_
  refine lv_aload_n hx hb dX8_become_1 rfl (lv_at hl 1 rfl) ?_
  refine va_get (D := D) (ci := 5) (v := .int (k9 0)) (C := RX8) (T := TX8) (N := 7) hx hb hts in_X8_become_X8 hown hE.1 hP 1 rfl rfl 0 (by decide +kernel) (hts (.fieldLink RX8 7 "ClauseBook$Lattice" "start" "I") (List.mem_of_getElem? (i := 1) rfl)) (fun _ h9 => h9) rfl dX8_become_2 ?_
  refine va_put (D := D) (ci := 5) (v := .int (k9 0)) (ty := .int) (C := RX8) (T := TX8) (N := 7) hx hb hts in_X8_become_X8 tyX8 tyX8_ok nmX8 hown hE.1 hP hD hS 0 rfl rfl 0 (by decide +kernel) (hts (.fieldLink RX8 7 "ClauseBook$Lattice" "start" "I") (List.mem_of_getElem? (i := 1) rfl)) (fun _ h9 => h9) rfl (by decide +kernel) rfl rfl (Nat.le_of_ble_eq_true rfl) dX8_become_5 (fun H locs hP hD hS => ?_)
  obtain ⟨hP, hD⟩ := wPD [(h0, .inr (5, [.int (k9 0), .int (l9 1), .int (l9 2), .int (l9 3), .int (l9 4), .int (l9 5), .int (l9 6)])), (o1, .inr (5, [.int (k9 0), .int (k9 1), .int (k9 2), .int (k9 3), .int (k9 4), .int (k9 5), .int (k9 6)]))] hP hD rfl
  refine lv_aload_n hx hb dX8_become_8 rfl (lv_at hl 0 rfl) ?_
  refine lv_aload_n hx hb dX8_become_9 rfl (lv_at hl 1 rfl) ?_
  refine va_get (D := D) (ci := 5) (v := .int (k9 1)) (C := RX8) (T := TX8) (N := 7) hx hb hts in_X8_become_X8 hown hE.1 hP 1 rfl rfl 1 (by decide +kernel) (hts (.fieldLink RX8 13 "ClauseBook$Lattice" "up" "I") (List.mem_of_getElem? (i := 2) rfl)) (fun _ h9 => h9) rfl dX8_become_10 ?_
  refine va_put (D := D) (ci := 5) (v := .int (k9 1)) (ty := .int) (C := RX8) (T := TX8) (N := 7) hx hb hts in_X8_become_X8 tyX8 tyX8_ok nmX8 hown hE.1 hP hD hS 0 rfl rfl 1 (by decide +kernel) (hts (.fieldLink RX8 13 "ClauseBook$Lattice" "up" "I") (List.mem_of_getElem? (i := 2) rfl)) (fun _ h9 => h9) rfl (by decide +kernel) rfl rfl (Nat.le_of_ble_eq_true rfl) dX8_become_13 (fun H locs hP hD hS => ?_)
  obtain ⟨hP, hD⟩ := wPD [(h0, .inr (5, [.int (k9 0), .int (k9 1), .int (l9 2), .int (l9 3), .int (l9 4), .int (l9 5), .int (l9 6)])), (o1, .inr (5, [.int (k9 0), .int (k9 1), .int (k9 2), .int (k9 3), .int (k9 4), .int (k9 5), .int (k9 6)]))] hP hD rfl
  refine lv_aload_n hx hb dX8_become_16 rfl (lv_at hl 0 rfl) ?_
  refine lv_aload_n hx hb dX8_become_17 rfl (lv_at hl 1 rfl) ?_
  refine va_get (D := D) (ci := 5) (v := .int (k9 2)) (C := RX8) (T := TX8) (N := 7) hx hb hts in_X8_become_X8 hown hE.1 hP 1 rfl rfl 2 (by decide +kernel) (hts (.fieldLink RX8 16 "ClauseBook$Lattice" "down" "I") (List.mem_of_getElem? (i := 3) rfl)) (fun _ h9 => h9) rfl dX8_become_18 ?_
  refine va_put (D := D) (ci := 5) (v := .int (k9 2)) (ty := .int) (C := RX8) (T := TX8) (N := 7) hx hb hts in_X8_become_X8 tyX8 tyX8_ok nmX8 hown hE.1 hP hD hS 0 rfl rfl 2 (by decide +kernel) (hts (.fieldLink RX8 16 "ClauseBook$Lattice" "down" "I") (List.mem_of_getElem? (i := 3) rfl)) (fun _ h9 => h9) rfl (by decide +kernel) rfl rfl (Nat.le_of_ble_eq_true rfl) dX8_become_21 (fun H locs hP hD hS => ?_)
  obtain ⟨hP, hD⟩ := wPD [(h0, .inr (5, [.int (k9 0), .int (k9 1), .int (k9 2), .int (l9 3), .int (l9 4), .int (l9 5), .int (l9 6)])), (o1, .inr (5, [.int (k9 0), .int (k9 1), .int (k9 2), .int (k9 3), .int (k9 4), .int (k9 5), .int (k9 6)]))] hP hD rfl
  refine lv_aload_n hx hb dX8_become_24 rfl (lv_at hl 0 rfl) ?_
  refine lv_aload_n hx hb dX8_become_25 rfl (lv_at hl 1 rfl) ?_
  refine va_get (D := D) (ci := 5) (v := .int (k9 3)) (C := RX8) (T := TX8) (N := 7) hx hb hts in_X8_become_X8 hown hE.1 hP 1 rfl rfl 3 (by decide +kernel) (hts (.fieldLink RX8 19 "ClauseBook$Lattice" "p" "I") (List.mem_of_getElem? (i := 4) rfl)) (fun _ h9 => h9) rfl dX8_become_26 ?_
  refine va_put (D := D) (ci := 5) (v := .int (k9 3)) (ty := .int) (C := RX8) (T := TX8) (N := 7) hx hb hts in_X8_become_X8 tyX8 tyX8_ok nmX8 hown hE.1 hP hD hS 0 rfl rfl 3 (by decide +kernel) (hts (.fieldLink RX8 19 "ClauseBook$Lattice" "p" "I") (List.mem_of_getElem? (i := 4) rfl)) (fun _ h9 => h9) rfl (by decide +kernel) rfl rfl (Nat.le_of_ble_eq_true rfl) dX8_become_29 (fun H locs hP hD hS => ?_)
  obtain ⟨hP, hD⟩ := wPD [(h0, .inr (5, [.int (k9 0), .int (k9 1), .int (k9 2), .int (k9 3), .int (l9 4), .int (l9 5), .int (l9 6)])), (o1, .inr (5, [.int (k9 0), .int (k9 1), .int (k9 2), .int (k9 3), .int (k9 4), .int (k9 5), .int (k9 6)]))] hP hD rfl
  refine lv_aload_n hx hb dX8_become_32 rfl (lv_at hl 0 rfl) ?_
  refine lv_aload_n hx hb dX8_become_33 rfl (lv_at hl 1 rfl) ?_
  refine va_get (D := D) (ci := 5) (v := .int (k9 4)) (C := RX8) (T := TX8) (N := 7) hx hb hts in_X8_become_X8 hown hE.1 hP 1 rfl rfl 4 (by decide +kernel) (hts (.fieldLink RX8 22 "ClauseBook$Lattice" "q" "I") (List.mem_of_getElem? (i := 5) rfl)) (fun _ h9 => h9) rfl dX8_become_34 ?_
  refine va_put (D := D) (ci := 5) (v := .int (k9 4)) (ty := .int) (C := RX8) (T := TX8) (N := 7) hx hb hts in_X8_become_X8 tyX8 tyX8_ok nmX8 hown hE.1 hP hD hS 0 rfl rfl 4 (by decide +kernel) (hts (.fieldLink RX8 22 "ClauseBook$Lattice" "q" "I") (List.mem_of_getElem? (i := 5) rfl)) (fun _ h9 => h9) rfl (by decide +kernel) rfl rfl (Nat.le_of_ble_eq_true rfl) dX8_become_37 (fun H locs hP hD hS => ?_)
  obtain ⟨hP, hD⟩ := wPD [(h0, .inr (5, [.int (k9 0), .int (k9 1), .int (k9 2), .int (k9 3), .int (k9 4), .int (l9 5), .int (l9 6)])), (o1, .inr (5, [.int (k9 0), .int (k9 1), .int (k9 2), .int (k9 3), .int (k9 4), .int (k9 5), .int (k9 6)]))] hP hD rfl
  refine lv_aload_n hx hb dX8_become_40 rfl (lv_at hl 0 rfl) ?_
  refine lv_aload_n hx hb dX8_become_41 rfl (lv_at hl 1 rfl) ?_
  refine va_get (D := D) (ci := 5) (v := .int (k9 5)) (C := RX8) (T := TX8) (N := 7) hx hb hts in_X8_become_X8 hown hE.1 hP 1 rfl rfl 5 (by decide +kernel) (hts (.fieldLink RX8 25 "ClauseBook$Lattice" "a" "I") (List.mem_of_getElem? (i := 6) rfl)) (fun _ h9 => h9) rfl dX8_become_42 ?_
  refine va_put (D := D) (ci := 5) (v := .int (k9 5)) (ty := .int) (C := RX8) (T := TX8) (N := 7) hx hb hts in_X8_become_X8 tyX8 tyX8_ok nmX8 hown hE.1 hP hD hS 0 rfl rfl 5 (by decide +kernel) (hts (.fieldLink RX8 25 "ClauseBook$Lattice" "a" "I") (List.mem_of_getElem? (i := 6) rfl)) (fun _ h9 => h9) rfl (by decide +kernel) rfl rfl (Nat.le_of_ble_eq_true rfl) dX8_become_45 (fun H locs hP hD hS => ?_)
  obtain ⟨hP, hD⟩ := wPD [(h0, .inr (5, [.int (k9 0), .int (k9 1), .int (k9 2), .int (k9 3), .int (k9 4), .int (k9 5), .int (l9 6)])), (o1, .inr (5, [.int (k9 0), .int (k9 1), .int (k9 2), .int (k9 3), .int (k9 4), .int (k9 5), .int (k9 6)]))] hP hD rfl
  refine lv_aload_n hx hb dX8_become_48 rfl (lv_at hl 0 rfl) ?_
  refine lv_aload_n hx hb dX8_become_49 rfl (lv_at hl 1 rfl) ?_
  refine va_get (D := D) (ci := 5) (v := .int (k9 6)) (C := RX8) (T := TX8) (N := 7) hx hb hts in_X8_become_X8 hown hE.1 hP 1 rfl rfl 6 (by decide +kernel) (hts (.fieldLink RX8 28 "ClauseBook$Lattice" "b" "I") (List.mem_of_getElem? (i := 7) rfl)) (fun _ h9 => h9) rfl dX8_become_50 ?_
  refine va_put (D := D) (ci := 5) (v := .int (k9 6)) (ty := .int) (C := RX8) (T := TX8) (N := 7) hx hb hts in_X8_become_X8 tyX8 tyX8_ok nmX8 hown hE.1 hP hD hS 0 rfl rfl 6 (by decide +kernel) (hts (.fieldLink RX8 28 "ClauseBook$Lattice" "b" "I") (List.mem_of_getElem? (i := 7) rfl)) (fun _ h9 => h9) rfl (by decide +kernel) rfl rfl (Nat.le_of_ble_eq_true rfl) dX8_become_53 (fun H locs hP hD hS => ?_)
  obtain ⟨hP, hD⟩ := wPD [(h0, .inr (5, [.int (k9 0), .int (k9 1), .int (k9 2), .int (k9 3), .int (k9 4), .int (k9 5), .int (k9 6)])), (o1, .inr (5, [.int (k9 0), .int (k9 1), .int (k9 2), .int (k9 3), .int (k9 4), .int (k9 5), .int (k9 6)]))] hP hD rfl
  exact W.vret hx hb hr (fun t ht hW => ⟨⟨(), rfl, trivial, by rw [ht]; exact hP.sub [0, 1] rfl, hD.sub [0, 1] (by decide +kernel) rfl⟩, hS.F ht⟩) hS.2.2 dX8_become_56
theorem dX1_become_0 : decode cX1_become 0 = .ok (.aload_n 0, 1) := by decide +kernel
theorem dX1_become_1 : decode cX1_become 1 = .ok (.aload_n 1, 1) := by decide +kernel
theorem dX1_become_12 : decode cX1_become 12 = .ok (.iconst 0, 1) := by decide +kernel
theorem dX1_become_13 : decode cX1_become 13 = .ok (.aload_n 0, 1) := by decide +kernel
theorem dX1_become_14 : decode cX1_become 14 = .ok (.getfield 15, 3) := by decide +kernel
theorem dX1_become_17 : decode cX1_become 17 = .ok (.iconst 0, 1) := by decide +kernel
theorem dX1_become_18 : decode cX1_become 18 = .ok (.bipush 12, 2) := by decide +kernel
theorem dX1_become_2 : decode cX1_become 2 = .ok (.getfield 9, 3) := by decide +kernel
theorem dX1_become_20 : decode cX1_become 20 = .ok (.invokestatic 19, 3) := by decide +kernel
theorem dX1_become_23 : decode cX1_become 23 = .ok (.return_, 1) := by decide +kernel
theorem dX1_become_5 : decode cX1_become 5 = .ok (.putfield 9, 3) := by decide +kernel
theorem dX1_become_8 : decode cX1_become 8 = .ok (.aload_n 1, 1) := by decide +kernel
theorem dX1_become_9 : decode cX1_become 9 = .ok (.getfield 15, 3) := by decide +kernel
set_option maxRecDepth 20000 in
theorem in_X1_become_X1 : ∀ w ∈ wsX10, w ∈ wsX1_become := sub_r [7, 8] rfl
set_option maxHeartbeats 4000000 in
set_option maxRecDepth 100000 in
theorem c_X1_become (l : Launch) (D : va_G) (T : Nat → ClassId) (sz : Nat) (h0 : Nat) (o1 : Nat) (a0 : Nat) (a1 : Nat) (bm : Int32) (bk : Int32) (f : Nat → Int32) (g : Nat → Int32)  : Met l yX1_become wsX1_become ({ frames := 1, cells := 0, slots := 0, locals := 80 }) (pW [.ref h0, .ref o1] D T [(h0, .inr (0, [.int bm, .ref a0])), (o1, .inr (0, [.int bk, .ref a1])), (a0, .inl (T 0, 12, .inl f)), (a1, .inl (T 0, 12, .inl g))] sz) (va_Qv (fun (u : Unit) => True) (bW D (va_A [(h0, .inr (0, [.int bm, .ref a0])), (o1, .inr (0, [.int bk, .ref a1])), (a0, .inl (T 0, 12, .inl f)), (a1, .inl (T 0, 12, .inl g))] sz) (fun (u : Unit) => [(h0, .inr (0, [.int bk, .ref a0])), (o1, .inr (0, [.int bk, .ref a1])), (a0, .inl (T 0, 12, .inl (va_cpy g f 0 0 12))), (a1, .inl (T 0, 12, .inl g))])) (va_A [(h0, .inr (0, [.int bm, .ref a0])), (o1, .inr (0, [.int bk, .ref a1])), (a0, .inl (T 0, 12, .inl f)), (a1, .inl (T 0, 12, .inl g))] sz)) 0 0 (va_A [(h0, .inr (0, [.int bm, .ref a0])), (o1, .inr (0, [.int bk, .ref a1])), (a0, .inl (T 0, 12, .inl f)), (a1, .inl (T 0, 12, .inl g))] sz) := by
  refine Met.ofW (cc := cX1_become) (maxL := 2) (ret := none) (by decide +kernel) rfl ?_
  intro p e s m args below meth c s₁ B hml hv
  obtain ⟨rfl, hsz, hP, hE, hD0⟩ := hv
  have hx := B.exec
  have hb := B.bytes
  have hr := B.returns
  have hts := atoms_spec (ws := wsX1_become) B.pre
  have hown : s.vm.findClass RX1 = some m.cls := findClass_of_methodNamed B.named
  have hlocks := B.notSynchronized
  subst hsz
  have hD := hD0.self (sz := s.heap.size)
  generalize hAe : va_A [(h0, .inr (0, [.int bm, .ref a0])), (o1, .inr (0, [.int bk, .ref a1])), (a0, .inl (T 0, 12, .inl f)), (a1, .inl (T 0, 12, .inl g))] s.heap.size = A at hD ⊢
  have hA : ∀ q : Nat, s.heap.size ≤ q → A q := fun q h => by rw [← hAe]; exact Or.inr h
  have hS : va_S A s.heap s.heap [] := va_S.rf
  have hP : va_P D vwCl [(h0, .inr (0, [.int bm, .ref a0])), (o1, .inr (0, [.int bk, .ref a1])), (a0, .inl (T 0, 12, .inl f)), (a1, .inl (T 0, 12, .inl g))] s.heap := hP
  have hl := lv_entry ([.ref h0, .ref o1]) (n := 2) (Nat.le_of_ble_eq_true rfl)
  rw [lg_entry_eq]
  generalize (lg_sl ([.ref h0, .ref o1]) ++ List.replicate (2 - (lg_sl ([.ref h0, .ref o1])).length) Slot.unset).toArray = ls at hl ⊢
  have hl : lv_has ls 2 [(0, .ref h0), (1, .ref o1)] := hl
  clear hD0
  refine lv_aload_n hx hb dX1_become_0 rfl (lv_at hl 0 rfl) ?_
  refine lv_aload_n hx hb dX1_become_1 rfl (lv_at hl 1 rfl) ?_
  refine va_get (D := D) (ci := 0) (v := .int bk) (C := RX1) (T := TX1) (N := 2) hx hb hts in_X1_become_X1 hown hE.1 hP 1 rfl rfl 0 (by decide +kernel) (hts (.fieldLink RX1 9 "ClauseBook$Bag" "size" "I") (List.mem_of_getElem? (i := 1) rfl)) (fun _ h9 => h9) rfl dX1_become_2 ?_
  refine va_put (D := D) (ci := 0) (v := .int bk) (ty := .int) (C := RX1) (T := TX1) (N := 2) hx hb hts in_X1_become_X1 tyX1 tyX1_ok nmX1 hown hE.1 hP hD hS 0 rfl rfl 0 (by decide +kernel) (hts (.fieldLink RX1 9 "ClauseBook$Bag" "size" "I") (List.mem_of_getElem? (i := 1) rfl)) (fun _ h9 => h9) rfl (by decide +kernel) rfl rfl (Nat.le_of_ble_eq_true rfl) dX1_become_5 (fun H locs hP hD hS => ?_)
  obtain ⟨hP, hD⟩ := wPD [(h0, .inr (0, [.int bk, .ref a0])), (o1, .inr (0, [.int bk, .ref a1])), (a0, .inl (T 0, 12, .inl f)), (a1, .inl (T 0, 12, .inl g))] hP hD rfl
  refine lv_aload_n hx hb dX1_become_8 rfl (lv_at hl 1 rfl) ?_
  refine va_get (D := D) (ci := 0) (v := .ref a1) (C := RX1) (T := TX1) (N := 2) hx hb hts in_X1_become_X1 hown hE.1 hP 1 rfl rfl 1 (by decide +kernel) (hts (.fieldLink RX1 15 "ClauseBook$Bag" "numbers" "[I") (List.mem_of_getElem? (i := 2) rfl)) (fun _ h9 => h9) rfl dX1_become_9 ?_
  refine lv_iconst (v := 0) hx hb dX1_become_12 (by decide +kernel) ?_
  refine lv_aload_n hx hb dX1_become_13 rfl (lv_at hl 0 rfl) ?_
  refine va_get (D := D) (ci := 0) (v := .ref a0) (C := RX1) (T := TX1) (N := 2) hx hb hts in_X1_become_X1 hown hE.1 hP 0 rfl rfl 1 (by decide +kernel) (hts (.fieldLink RX1 15 "ClauseBook$Bag" "numbers" "[I") (List.mem_of_getElem? (i := 2) rfl)) (fun _ h9 => h9) rfl dX1_become_14 ?_
  refine lv_iconst (v := 0) hx hb dX1_become_17 (by decide +kernel) ?_
  refine lv_bipush (v := 12) hx hb dX1_become_18 (by decide +kernel) ?_
  refine va_copyi (ty := .int) hx hb (hml.trans hl.1.symm) hown (hts (.methodLink RX1 19 arraycopyName) (List.mem_of_getElem? (i := 3) rfl)) (hts (.native arraycopyName) (List.mem_of_getElem? (i := 4) rfl)) (hts (.static arraycopyName) (List.mem_of_getElem? (i := 5) rfl)) (hts (.initialized "java/lang/System") (List.mem_of_getElem? (i := 6) rfl)) hE.1 hP hD hS 3 2 0 0 rfl rfl rfl rfl rfl (by decide +kernel) (by decide +kernel) (by decide +kernel) (by decide +kernel) (by decide +kernel) (fun _ _ => rfl) (Nat.le_of_ble_eq_true rfl) (Nat.le_of_ble_eq_true rfl) dX1_become_20 (fun H locs hP hD hS => ?_)
  obtain ⟨hP, hD⟩ := wPD [(h0, .inr (0, [.int bk, .ref a0])), (o1, .inr (0, [.int bk, .ref a1])), (a0, .inl (T 0, 12, .inl (va_cpy g f 0 0 12))), (a1, .inl (T 0, 12, .inl g))] hP hD rfl
  exact W.vret hx hb hr (fun t ht hW => ⟨⟨(), rfl, trivial, by rw [ht]; exact hP.sub [0, 1, 2, 3] rfl, hD.sub [0, 1, 2, 3] (by decide +kernel) rfl⟩, hS.F ht⟩) hS.2.2 dX1_become_23
theorem dX2_become_0 : decode cX2_become 0 = .ok (.aload_n 0, 1) := by decide +kernel
theorem dX2_become_1 : decode cX2_become 1 = .ok (.aload_n 1, 1) := by decide +kernel
theorem dX2_become_12 : decode cX2_become 12 = .ok (.iconst 0, 1) := by decide +kernel
theorem dX2_become_13 : decode cX2_become 13 = .ok (.aload_n 0, 1) := by decide +kernel
theorem dX2_become_14 : decode cX2_become 14 = .ok (.getfield 15, 3) := by decide +kernel
theorem dX2_become_17 : decode cX2_become 17 = .ok (.iconst 0, 1) := by decide +kernel
theorem dX2_become_18 : decode cX2_become 18 = .ok (.bipush 24, 2) := by decide +kernel
theorem dX2_become_2 : decode cX2_become 2 = .ok (.getfield 9, 3) := by decide +kernel
theorem dX2_become_20 : decode cX2_become 20 = .ok (.invokestatic 81, 3) := by decide +kernel
theorem dX2_become_23 : decode cX2_become 23 = .ok (.aload_n 1, 1) := by decide +kernel
theorem dX2_become_24 : decode cX2_become 24 = .ok (.getfield 19, 3) := by decide +kernel
theorem dX2_become_27 : decode cX2_become 27 = .ok (.iconst 0, 1) := by decide +kernel
theorem dX2_become_28 : decode cX2_become 28 = .ok (.aload_n 0, 1) := by decide +kernel
theorem dX2_become_29 : decode cX2_become 29 = .ok (.getfield 19, 3) := by decide +kernel
theorem dX2_become_32 : decode cX2_become 32 = .ok (.iconst 0, 1) := by decide +kernel
theorem dX2_become_33 : decode cX2_become 33 = .ok (.bipush 24, 2) := by decide +kernel
theorem dX2_become_35 : decode cX2_become 35 = .ok (.invokestatic 81, 3) := by decide +kernel
theorem dX2_become_38 : decode cX2_become 38 = .ok (.aload_n 1, 1) := by decide +kernel
theorem dX2_become_39 : decode cX2_become 39 = .ok (.getfield 22, 3) := by decide +kernel
theorem dX2_become_42 : decode cX2_become 42 = .ok (.iconst 0, 1) := by decide +kernel
theorem dX2_become_43 : decode cX2_become 43 = .ok (.aload_n 0, 1) := by decide +kernel
theorem dX2_become_44 : decode cX2_become 44 = .ok (.getfield 22, 3) := by decide +kernel
theorem dX2_become_47 : decode cX2_become 47 = .ok (.iconst 0, 1) := by decide +kernel
theorem dX2_become_48 : decode cX2_become 48 = .ok (.bipush 24, 2) := by decide +kernel
theorem dX2_become_5 : decode cX2_become 5 = .ok (.putfield 9, 3) := by decide +kernel
theorem dX2_become_50 : decode cX2_become 50 = .ok (.invokestatic 81, 3) := by decide +kernel
theorem dX2_become_53 : decode cX2_become 53 = .ok (.aload_n 1, 1) := by decide +kernel
theorem dX2_become_54 : decode cX2_become 54 = .ok (.getfield 25, 3) := by decide +kernel
theorem dX2_become_57 : decode cX2_become 57 = .ok (.iconst 0, 1) := by decide +kernel
theorem dX2_become_58 : decode cX2_become 58 = .ok (.aload_n 0, 1) := by decide +kernel
theorem dX2_become_59 : decode cX2_become 59 = .ok (.getfield 25, 3) := by decide +kernel
theorem dX2_become_62 : decode cX2_become 62 = .ok (.iconst 0, 1) := by decide +kernel
theorem dX2_become_63 : decode cX2_become 63 = .ok (.bipush 24, 2) := by decide +kernel
theorem dX2_become_65 : decode cX2_become 65 = .ok (.invokestatic 81, 3) := by decide +kernel
theorem dX2_become_68 : decode cX2_become 68 = .ok (.iconst 0, 1) := by decide +kernel
theorem dX2_become_69 : decode cX2_become 69 = .ok (.istore_n 2, 1) := by decide +kernel
theorem dX2_become_70 : decode cX2_become 70 = .ok (.iload_n 2, 1) := by decide +kernel
theorem dX2_become_71 : decode cX2_become 71 = .ok (.aload_n 0, 1) := by decide +kernel
theorem dX2_become_72 : decode cX2_become 72 = .ok (.getfield 9, 3) := by decide +kernel
theorem dX2_become_75 : decode cX2_become 75 = .ok (.if_icmp .ge 14, 3) := by decide +kernel
theorem dX2_become_78 : decode cX2_become 78 = .ok (.aload_n 0, 1) := by decide +kernel
theorem dX2_become_79 : decode cX2_become 79 = .ok (.iload_n 2, 1) := by decide +kernel
theorem dX2_become_8 : decode cX2_become 8 = .ok (.aload_n 1, 1) := by decide +kernel
theorem dX2_become_80 : decode cX2_become 80 = .ok (.invokevirtual 58, 3) := by decide +kernel
theorem dX2_become_83 : decode cX2_become 83 = .ok (.iinc 2 1, 3) := by decide +kernel
theorem dX2_become_86 : decode cX2_become 86 = .ok (.goto (-16), 3) := by decide +kernel
theorem dX2_become_89 : decode cX2_become 89 = .ok (.return_, 1) := by decide +kernel
theorem dX2_become_9 : decode cX2_become 9 = .ok (.getfield 15, 3) := by decide +kernel
set_option maxRecDepth 20000 in
theorem ggX2_become_X2_measure : GoodIn wsX2_become wsX2_measure := goodIn_r _ [14, 15, 16, 8, 17, 18, 9, 19, 20, 21, 22, 23, 7, 24, 25, 26, 27, 28, 29, 13, 30, 2, 31, 32, 33, 34, 35, 36, 37, 38] rfl (by decide +kernel)
set_option maxRecDepth 20000 in
theorem gX2_become_X2_measure : GoodIn wsX2_become (wsV RX2 58 RX2 yX2_measure wsX2_measure) := goodIn_app (goodIn_r _ [10, 11, 12, 13] rfl (by decide +kernel)) ggX2_become_X2_measure
set_option maxRecDepth 20000 in
theorem in_X2_become_X2 : ∀ w ∈ wsX20, w ∈ wsX2_become := sub_r [31, 32, 33, 34, 35, 36, 37, 38] rfl
set_option maxHeartbeats 4000000 in
set_option maxRecDepth 100000 in
theorem c_X2_become (l : Launch) (D : va_G) (T : Nat → ClassId) (ad sa av : Nat → Nat) (ta : Nat) (sz : Nat) (h0 : Nat) (o1 : Nat) (n0 : Int32) (k0 : Int32) (c1 : Nat) (c2 : Nat) (c3 : Nat) (c4 : Nat) (c5 : Nat) (c6 : Nat) (c7 : Nat) (d1 : Nat) (d2 : Nat) (d3 : Nat) (d4 : Nat) (d5 : Nat) (d6 : Nat) (d7 : Nat) (f1 : Nat → Int32) (f2 : Nat → Int32) (f3 : Nat → Int32) (f4 : Nat → Int32) (f5 : Nat → Int32) (f6 : Nat → Int32) (f7 : Nat → Int32) (g1 : Nat → Int32) (g2 : Nat → Int32) (g3 : Nat → Int32) (g4 : Nat → Int32) (g5 : Nat → Int32) (g6 : Nat → Int32) (g7 : Nat → Int32) (hk0 : 0 ≤ k0.toInt ∧ k0.toInt ≤ 24) (hok : okC f1 f3 f4 f5) (hokg : okC g1 g3 g4 g5) : Met l yX2_become wsX2_become ({ frames := 2, cells := 0, slots := 0, locals := 80 }) (pWk [.ref h0, .ref o1] D T [(h0, .inr (1, [.int n0, .ref c1, .ref c2, .ref c3, .ref c4, .ref c5, .ref c6, .ref c7])), (c1, .inl (T 0, 24, .inl f1)), (c2, .inl (T 0, 24, .inl f2)), (c3, .inl (T 0, 24, .inl f3)), (c4, .inl (T 0, 24, .inl f4)), (c5, .inl (T 0, 24, .inl f5)), (c6, .inl (T 0, 24, .inl f6)), (c7, .inl (T 0, 24, .inl f7)), (o1, .inr (1, [.int k0, .ref d1, .ref d2, .ref d3, .ref d4, .ref d5, .ref d6, .ref d7])), (d1, .inl (T 0, 24, .inl g1)), (d2, .inl (T 0, 24, .inl g2)), (d3, .inl (T 0, 24, .inl g3)), (d4, .inl (T 0, 24, .inl g4)), (d5, .inl (T 0, 24, .inl g5)), (d6, .inl (T 0, 24, .inl g6)), (d7, .inl (T 0, 24, .inl g7))] sz ad sa av ta) (va_Qv (fun (u : (Nat → Int32) × (Nat → Int32) × (Nat → Int32)) => okC (va_cpy g1 f1 0 0 24) (va_cpy g3 f3 0 0 24) (va_cpy g4 f4 0 0 24) u.1 ∧ ∀ j : Nat, (j : Int) < k0.toInt → mesP (va_cpy g1 f1 0 0 24) (va_cpy g2 f2 0 0 24) (va_cpy g3 f3 0 0 24) (va_cpy g4 f4 0 0 24) u.1 u.2.1 u.2.2 j) (bW D (va_A [(h0, .inr (1, [.int n0, .ref c1, .ref c2, .ref c3, .ref c4, .ref c5, .ref c6, .ref c7])), (c1, .inl (T 0, 24, .inl f1)), (c2, .inl (T 0, 24, .inl f2)), (c3, .inl (T 0, 24, .inl f3)), (c4, .inl (T 0, 24, .inl f4)), (c5, .inl (T 0, 24, .inl f5)), (c6, .inl (T 0, 24, .inl f6)), (c7, .inl (T 0, 24, .inl f7)), (o1, .inr (1, [.int k0, .ref d1, .ref d2, .ref d3, .ref d4, .ref d5, .ref d6, .ref d7])), (d1, .inl (T 0, 24, .inl g1)), (d2, .inl (T 0, 24, .inl g2)), (d3, .inl (T 0, 24, .inl g3)), (d4, .inl (T 0, 24, .inl g4)), (d5, .inl (T 0, 24, .inl g5)), (d6, .inl (T 0, 24, .inl g6)), (d7, .inl (T 0, 24, .inl g7))] sz) (fun (u : (Nat → Int32) × (Nat → Int32) × (Nat → Int32)) => [(h0, .inr (1, [.int k0, .ref c1, .ref c2, .ref c3, .ref c4, .ref c5, .ref c6, .ref c7])), (c1, .inl (T 0, 24, .inl (va_cpy g1 f1 0 0 24))), (c2, .inl (T 0, 24, .inl (va_cpy g2 f2 0 0 24))), (c3, .inl (T 0, 24, .inl (va_cpy g3 f3 0 0 24))), (c4, .inl (T 0, 24, .inl (va_cpy g4 f4 0 0 24))), (c5, .inl (T 0, 24, .inl u.1)), (c6, .inl (T 0, 24, .inl u.2.1)), (c7, .inl (T 0, 24, .inl u.2.2)), (o1, .inr (1, [.int k0, .ref d1, .ref d2, .ref d3, .ref d4, .ref d5, .ref d6, .ref d7])), (d1, .inl (T 0, 24, .inl g1)), (d2, .inl (T 0, 24, .inl g2)), (d3, .inl (T 0, 24, .inl g3)), (d4, .inl (T 0, 24, .inl g4)), (d5, .inl (T 0, 24, .inl g5)), (d6, .inl (T 0, 24, .inl g6)), (d7, .inl (T 0, 24, .inl g7))])) (va_A [(h0, .inr (1, [.int n0, .ref c1, .ref c2, .ref c3, .ref c4, .ref c5, .ref c6, .ref c7])), (c1, .inl (T 0, 24, .inl f1)), (c2, .inl (T 0, 24, .inl f2)), (c3, .inl (T 0, 24, .inl f3)), (c4, .inl (T 0, 24, .inl f4)), (c5, .inl (T 0, 24, .inl f5)), (c6, .inl (T 0, 24, .inl f6)), (c7, .inl (T 0, 24, .inl f7)), (o1, .inr (1, [.int k0, .ref d1, .ref d2, .ref d3, .ref d4, .ref d5, .ref d6, .ref d7])), (d1, .inl (T 0, 24, .inl g1)), (d2, .inl (T 0, 24, .inl g2)), (d3, .inl (T 0, 24, .inl g3)), (d4, .inl (T 0, 24, .inl g4)), (d5, .inl (T 0, 24, .inl g5)), (d6, .inl (T 0, 24, .inl g6)), (d7, .inl (T 0, 24, .inl g7))] sz)) 0 0 (va_A [(h0, .inr (1, [.int n0, .ref c1, .ref c2, .ref c3, .ref c4, .ref c5, .ref c6, .ref c7])), (c1, .inl (T 0, 24, .inl f1)), (c2, .inl (T 0, 24, .inl f2)), (c3, .inl (T 0, 24, .inl f3)), (c4, .inl (T 0, 24, .inl f4)), (c5, .inl (T 0, 24, .inl f5)), (c6, .inl (T 0, 24, .inl f6)), (c7, .inl (T 0, 24, .inl f7)), (o1, .inr (1, [.int k0, .ref d1, .ref d2, .ref d3, .ref d4, .ref d5, .ref d6, .ref d7])), (d1, .inl (T 0, 24, .inl g1)), (d2, .inl (T 0, 24, .inl g2)), (d3, .inl (T 0, 24, .inl g3)), (d4, .inl (T 0, 24, .inl g4)), (d5, .inl (T 0, 24, .inl g5)), (d6, .inl (T 0, 24, .inl g6)), (d7, .inl (T 0, 24, .inl g7))] sz) := by
  refine Met.ofW (cc := cX2_become) (maxL := 3) (ret := none) (by decide +kernel) rfl ?_
  intro p e s m args below meth c s₁ B hml hv
  obtain ⟨rfl, hsz, hP, hE, hD0, hV⟩ := hv
  have hx := B.exec
  have hb := B.bytes
  have hr := B.returns
  have hts := atoms_spec (ws := wsX2_become) B.pre
  have hown : s.vm.findClass RX2 = some m.cls := findClass_of_methodNamed B.named
  have hlocks := B.notSynchronized
  subst hsz
  have hD := hD0.self (sz := s.heap.size)
  generalize hAe : va_A [(h0, .inr (1, [.int n0, .ref c1, .ref c2, .ref c3, .ref c4, .ref c5, .ref c6, .ref c7])), (c1, .inl (T 0, 24, .inl f1)), (c2, .inl (T 0, 24, .inl f2)), (c3, .inl (T 0, 24, .inl f3)), (c4, .inl (T 0, 24, .inl f4)), (c5, .inl (T 0, 24, .inl f5)), (c6, .inl (T 0, 24, .inl f6)), (c7, .inl (T 0, 24, .inl f7)), (o1, .inr (1, [.int k0, .ref d1, .ref d2, .ref d3, .ref d4, .ref d5, .ref d6, .ref d7])), (d1, .inl (T 0, 24, .inl g1)), (d2, .inl (T 0, 24, .inl g2)), (d3, .inl (T 0, 24, .inl g3)), (d4, .inl (T 0, 24, .inl g4)), (d5, .inl (T 0, 24, .inl g5)), (d6, .inl (T 0, 24, .inl g6)), (d7, .inl (T 0, 24, .inl g7))] s.heap.size = A at hD hV ⊢
  have hA : ∀ q : Nat, s.heap.size ≤ q → A q := fun q h => by rw [← hAe]; exact Or.inr h
  have hS : va_S A s.heap s.heap [] := va_S.rf
  have hP : va_P D vwCl [(h0, .inr (1, [.int n0, .ref c1, .ref c2, .ref c3, .ref c4, .ref c5, .ref c6, .ref c7])), (c1, .inl (T 0, 24, .inl f1)), (c2, .inl (T 0, 24, .inl f2)), (c3, .inl (T 0, 24, .inl f3)), (c4, .inl (T 0, 24, .inl f4)), (c5, .inl (T 0, 24, .inl f5)), (c6, .inl (T 0, 24, .inl f6)), (c7, .inl (T 0, 24, .inl f7)), (o1, .inr (1, [.int k0, .ref d1, .ref d2, .ref d3, .ref d4, .ref d5, .ref d6, .ref d7])), (d1, .inl (T 0, 24, .inl g1)), (d2, .inl (T 0, 24, .inl g2)), (d3, .inl (T 0, 24, .inl g3)), (d4, .inl (T 0, 24, .inl g4)), (d5, .inl (T 0, 24, .inl g5)), (d6, .inl (T 0, 24, .inl g6)), (d7, .inl (T 0, 24, .inl g7))] s.heap := hP
  have hl := lv_entry ([.ref h0, .ref o1]) (n := 3) (Nat.le_of_ble_eq_true rfl)
  rw [lg_entry_eq]
  generalize (lg_sl ([.ref h0, .ref o1]) ++ List.replicate (3 - (lg_sl ([.ref h0, .ref o1])).length) Slot.unset).toArray = ls at hl ⊢
  have hl : lv_has ls 3 [(0, .ref h0), (1, .ref o1)] := hl
  clear hD0
  refine lv_aload_n hx hb dX2_become_0 rfl (lv_at hl 0 rfl) ?_
  refine lv_aload_n hx hb dX2_become_1 rfl (lv_at hl 1 rfl) ?_
  refine va_get (D := D) (ci := 1) (v := .int k0) (C := RX2) (T := TX2) (N := 8) hx hb hts in_X2_become_X2 hown hE.1 hP 8 rfl rfl 0 (by decide +kernel) (hts (.fieldLink RX2 9 "ClauseBook$Clauses" "size" "I") (List.mem_of_getElem? (i := 1) rfl)) (fun _ h9 => h9) rfl dX2_become_2 ?_
  refine va_put (D := D) (ci := 1) (v := .int k0) (ty := .int) (C := RX2) (T := TX2) (N := 8) hx hb hts in_X2_become_X2 tyX2 tyX2_ok nmX2 hown hE.1 hP hD hS 0 rfl rfl 0 (by decide +kernel) (hts (.fieldLink RX2 9 "ClauseBook$Clauses" "size" "I") (List.mem_of_getElem? (i := 1) rfl)) (fun _ h9 => h9) rfl (by decide +kernel) rfl rfl (Nat.le_of_ble_eq_true rfl) dX2_become_5 (fun H locs hP hD hS => ?_)
  obtain ⟨hP, hD⟩ := wPD [(h0, .inr (1, [.int k0, .ref c1, .ref c2, .ref c3, .ref c4, .ref c5, .ref c6, .ref c7])), (c1, .inl (T 0, 24, .inl f1)), (c2, .inl (T 0, 24, .inl f2)), (c3, .inl (T 0, 24, .inl f3)), (c4, .inl (T 0, 24, .inl f4)), (c5, .inl (T 0, 24, .inl f5)), (c6, .inl (T 0, 24, .inl f6)), (c7, .inl (T 0, 24, .inl f7)), (o1, .inr (1, [.int k0, .ref d1, .ref d2, .ref d3, .ref d4, .ref d5, .ref d6, .ref d7])), (d1, .inl (T 0, 24, .inl g1)), (d2, .inl (T 0, 24, .inl g2)), (d3, .inl (T 0, 24, .inl g3)), (d4, .inl (T 0, 24, .inl g4)), (d5, .inl (T 0, 24, .inl g5)), (d6, .inl (T 0, 24, .inl g6)), (d7, .inl (T 0, 24, .inl g7))] hP hD rfl
  refine lv_aload_n hx hb dX2_become_8 rfl (lv_at hl 1 rfl) ?_
  refine va_get (D := D) (ci := 1) (v := .ref d1) (C := RX2) (T := TX2) (N := 8) hx hb hts in_X2_become_X2 hown hE.1 hP 8 rfl rfl 1 (by decide +kernel) (hts (.fieldLink RX2 15 "ClauseBook$Clauses" "kind" "[I") (List.mem_of_getElem? (i := 2) rfl)) (fun _ h9 => h9) rfl dX2_become_9 ?_
  refine lv_iconst (v := 0) hx hb dX2_become_12 (by decide +kernel) ?_
  refine lv_aload_n hx hb dX2_become_13 rfl (lv_at hl 0 rfl) ?_
  refine va_get (D := D) (ci := 1) (v := .ref c1) (C := RX2) (T := TX2) (N := 8) hx hb hts in_X2_become_X2 hown hE.1 hP 0 rfl rfl 1 (by decide +kernel) (hts (.fieldLink RX2 15 "ClauseBook$Clauses" "kind" "[I") (List.mem_of_getElem? (i := 2) rfl)) (fun _ h9 => h9) rfl dX2_become_14 ?_
  refine lv_iconst (v := 0) hx hb dX2_become_17 (by decide +kernel) ?_
  refine lv_bipush (v := 24) hx hb dX2_become_18 (by decide +kernel) ?_
  refine va_copyi (ty := .int) hx hb (hml.trans hl.1.symm) hown (hts (.methodLink RX2 81 arraycopyName) (List.mem_of_getElem? (i := 3) rfl)) (hts (.native arraycopyName) (List.mem_of_getElem? (i := 4) rfl)) (hts (.static arraycopyName) (List.mem_of_getElem? (i := 5) rfl)) (hts (.initialized "java/lang/System") (List.mem_of_getElem? (i := 6) rfl)) hE.1 hP hD hS 9 1 0 0 rfl rfl rfl rfl rfl (by decide +kernel) (by decide +kernel) (by decide +kernel) (by decide +kernel) (by decide +kernel) (fun _ _ => rfl) (Nat.le_of_ble_eq_true rfl) (Nat.le_of_ble_eq_true rfl) dX2_become_20 (fun H locs hP hD hS => ?_)
  obtain ⟨hP, hD⟩ := wPD [(h0, .inr (1, [.int k0, .ref c1, .ref c2, .ref c3, .ref c4, .ref c5, .ref c6, .ref c7])), (c1, .inl (T 0, 24, .inl (va_cpy g1 f1 0 0 24))), (c2, .inl (T 0, 24, .inl f2)), (c3, .inl (T 0, 24, .inl f3)), (c4, .inl (T 0, 24, .inl f4)), (c5, .inl (T 0, 24, .inl f5)), (c6, .inl (T 0, 24, .inl f6)), (c7, .inl (T 0, 24, .inl f7)), (o1, .inr (1, [.int k0, .ref d1, .ref d2, .ref d3, .ref d4, .ref d5, .ref d6, .ref d7])), (d1, .inl (T 0, 24, .inl g1)), (d2, .inl (T 0, 24, .inl g2)), (d3, .inl (T 0, 24, .inl g3)), (d4, .inl (T 0, 24, .inl g4)), (d5, .inl (T 0, 24, .inl g5)), (d6, .inl (T 0, 24, .inl g6)), (d7, .inl (T 0, 24, .inl g7))] hP hD rfl
  refine lv_aload_n hx hb dX2_become_23 rfl (lv_at hl 1 rfl) ?_
  refine va_get (D := D) (ci := 1) (v := .ref d2) (C := RX2) (T := TX2) (N := 8) hx hb hts in_X2_become_X2 hown hE.1 hP 8 rfl rfl 2 (by decide +kernel) (hts (.fieldLink RX2 19 "ClauseBook$Clauses" "n" "[I") (List.mem_of_getElem? (i := 7) rfl)) (fun _ h9 => h9) rfl dX2_become_24 ?_
  refine lv_iconst (v := 0) hx hb dX2_become_27 (by decide +kernel) ?_
  refine lv_aload_n hx hb dX2_become_28 rfl (lv_at hl 0 rfl) ?_
  refine va_get (D := D) (ci := 1) (v := .ref c2) (C := RX2) (T := TX2) (N := 8) hx hb hts in_X2_become_X2 hown hE.1 hP 0 rfl rfl 2 (by decide +kernel) (hts (.fieldLink RX2 19 "ClauseBook$Clauses" "n" "[I") (List.mem_of_getElem? (i := 7) rfl)) (fun _ h9 => h9) rfl dX2_become_29 ?_
  refine lv_iconst (v := 0) hx hb dX2_become_32 (by decide +kernel) ?_
  refine lv_bipush (v := 24) hx hb dX2_become_33 (by decide +kernel) ?_
  refine va_copyi (ty := .int) hx hb (hml.trans hl.1.symm) hown (hts (.methodLink RX2 81 arraycopyName) (List.mem_of_getElem? (i := 3) rfl)) (hts (.native arraycopyName) (List.mem_of_getElem? (i := 4) rfl)) (hts (.static arraycopyName) (List.mem_of_getElem? (i := 5) rfl)) (hts (.initialized "java/lang/System") (List.mem_of_getElem? (i := 6) rfl)) hE.1 hP hD hS 10 2 0 0 rfl rfl rfl rfl rfl (by decide +kernel) (by decide +kernel) (by decide +kernel) (by decide +kernel) (by decide +kernel) (fun _ _ => rfl) (Nat.le_of_ble_eq_true rfl) (Nat.le_of_ble_eq_true rfl) dX2_become_35 (fun H locs hP hD hS => ?_)
  obtain ⟨hP, hD⟩ := wPD [(h0, .inr (1, [.int k0, .ref c1, .ref c2, .ref c3, .ref c4, .ref c5, .ref c6, .ref c7])), (c1, .inl (T 0, 24, .inl (va_cpy g1 f1 0 0 24))), (c2, .inl (T 0, 24, .inl (va_cpy g2 f2 0 0 24))), (c3, .inl (T 0, 24, .inl f3)), (c4, .inl (T 0, 24, .inl f4)), (c5, .inl (T 0, 24, .inl f5)), (c6, .inl (T 0, 24, .inl f6)), (c7, .inl (T 0, 24, .inl f7)), (o1, .inr (1, [.int k0, .ref d1, .ref d2, .ref d3, .ref d4, .ref d5, .ref d6, .ref d7])), (d1, .inl (T 0, 24, .inl g1)), (d2, .inl (T 0, 24, .inl g2)), (d3, .inl (T 0, 24, .inl g3)), (d4, .inl (T 0, 24, .inl g4)), (d5, .inl (T 0, 24, .inl g5)), (d6, .inl (T 0, 24, .inl g6)), (d7, .inl (T 0, 24, .inl g7))] hP hD rfl
  refine lv_aload_n hx hb dX2_become_38 rfl (lv_at hl 1 rfl) ?_
  refine va_get (D := D) (ci := 1) (v := .ref d3) (C := RX2) (T := TX2) (N := 8) hx hb hts in_X2_become_X2 hown hE.1 hP 8 rfl rfl 3 (by decide +kernel) (hts (.fieldLink RX2 22 "ClauseBook$Clauses" "c" "[I") (List.mem_of_getElem? (i := 8) rfl)) (fun _ h9 => h9) rfl dX2_become_39 ?_
  refine lv_iconst (v := 0) hx hb dX2_become_42 (by decide +kernel) ?_
  refine lv_aload_n hx hb dX2_become_43 rfl (lv_at hl 0 rfl) ?_
  refine va_get (D := D) (ci := 1) (v := .ref c3) (C := RX2) (T := TX2) (N := 8) hx hb hts in_X2_become_X2 hown hE.1 hP 0 rfl rfl 3 (by decide +kernel) (hts (.fieldLink RX2 22 "ClauseBook$Clauses" "c" "[I") (List.mem_of_getElem? (i := 8) rfl)) (fun _ h9 => h9) rfl dX2_become_44 ?_
  refine lv_iconst (v := 0) hx hb dX2_become_47 (by decide +kernel) ?_
  refine lv_bipush (v := 24) hx hb dX2_become_48 (by decide +kernel) ?_
  refine va_copyi (ty := .int) hx hb (hml.trans hl.1.symm) hown (hts (.methodLink RX2 81 arraycopyName) (List.mem_of_getElem? (i := 3) rfl)) (hts (.native arraycopyName) (List.mem_of_getElem? (i := 4) rfl)) (hts (.static arraycopyName) (List.mem_of_getElem? (i := 5) rfl)) (hts (.initialized "java/lang/System") (List.mem_of_getElem? (i := 6) rfl)) hE.1 hP hD hS 11 3 0 0 rfl rfl rfl rfl rfl (by decide +kernel) (by decide +kernel) (by decide +kernel) (by decide +kernel) (by decide +kernel) (fun _ _ => rfl) (Nat.le_of_ble_eq_true rfl) (Nat.le_of_ble_eq_true rfl) dX2_become_50 (fun H locs hP hD hS => ?_)
  obtain ⟨hP, hD⟩ := wPD [(h0, .inr (1, [.int k0, .ref c1, .ref c2, .ref c3, .ref c4, .ref c5, .ref c6, .ref c7])), (c1, .inl (T 0, 24, .inl (va_cpy g1 f1 0 0 24))), (c2, .inl (T 0, 24, .inl (va_cpy g2 f2 0 0 24))), (c3, .inl (T 0, 24, .inl (va_cpy g3 f3 0 0 24))), (c4, .inl (T 0, 24, .inl f4)), (c5, .inl (T 0, 24, .inl f5)), (c6, .inl (T 0, 24, .inl f6)), (c7, .inl (T 0, 24, .inl f7)), (o1, .inr (1, [.int k0, .ref d1, .ref d2, .ref d3, .ref d4, .ref d5, .ref d6, .ref d7])), (d1, .inl (T 0, 24, .inl g1)), (d2, .inl (T 0, 24, .inl g2)), (d3, .inl (T 0, 24, .inl g3)), (d4, .inl (T 0, 24, .inl g4)), (d5, .inl (T 0, 24, .inl g5)), (d6, .inl (T 0, 24, .inl g6)), (d7, .inl (T 0, 24, .inl g7))] hP hD rfl
  refine lv_aload_n hx hb dX2_become_53 rfl (lv_at hl 1 rfl) ?_
  refine va_get (D := D) (ci := 1) (v := .ref d4) (C := RX2) (T := TX2) (N := 8) hx hb hts in_X2_become_X2 hown hE.1 hP 8 rfl rfl 4 (by decide +kernel) (hts (.fieldLink RX2 25 "ClauseBook$Clauses" "d" "[I") (List.mem_of_getElem? (i := 9) rfl)) (fun _ h9 => h9) rfl dX2_become_54 ?_
  refine lv_iconst (v := 0) hx hb dX2_become_57 (by decide +kernel) ?_
  refine lv_aload_n hx hb dX2_become_58 rfl (lv_at hl 0 rfl) ?_
  refine va_get (D := D) (ci := 1) (v := .ref c4) (C := RX2) (T := TX2) (N := 8) hx hb hts in_X2_become_X2 hown hE.1 hP 0 rfl rfl 4 (by decide +kernel) (hts (.fieldLink RX2 25 "ClauseBook$Clauses" "d" "[I") (List.mem_of_getElem? (i := 9) rfl)) (fun _ h9 => h9) rfl dX2_become_59 ?_
  refine lv_iconst (v := 0) hx hb dX2_become_62 (by decide +kernel) ?_
  refine lv_bipush (v := 24) hx hb dX2_become_63 (by decide +kernel) ?_
  refine va_copyi (ty := .int) hx hb (hml.trans hl.1.symm) hown (hts (.methodLink RX2 81 arraycopyName) (List.mem_of_getElem? (i := 3) rfl)) (hts (.native arraycopyName) (List.mem_of_getElem? (i := 4) rfl)) (hts (.static arraycopyName) (List.mem_of_getElem? (i := 5) rfl)) (hts (.initialized "java/lang/System") (List.mem_of_getElem? (i := 6) rfl)) hE.1 hP hD hS 12 4 0 0 rfl rfl rfl rfl rfl (by decide +kernel) (by decide +kernel) (by decide +kernel) (by decide +kernel) (by decide +kernel) (fun _ _ => rfl) (Nat.le_of_ble_eq_true rfl) (Nat.le_of_ble_eq_true rfl) dX2_become_65 (fun H locs hP hD hS => ?_)
  obtain ⟨hP, hD⟩ := wPD [(h0, .inr (1, [.int k0, .ref c1, .ref c2, .ref c3, .ref c4, .ref c5, .ref c6, .ref c7])), (c1, .inl (T 0, 24, .inl (va_cpy g1 f1 0 0 24))), (c2, .inl (T 0, 24, .inl (va_cpy g2 f2 0 0 24))), (c3, .inl (T 0, 24, .inl (va_cpy g3 f3 0 0 24))), (c4, .inl (T 0, 24, .inl (va_cpy g4 f4 0 0 24))), (c5, .inl (T 0, 24, .inl f5)), (c6, .inl (T 0, 24, .inl f6)), (c7, .inl (T 0, 24, .inl f7)), (o1, .inr (1, [.int k0, .ref d1, .ref d2, .ref d3, .ref d4, .ref d5, .ref d6, .ref d7])), (d1, .inl (T 0, 24, .inl g1)), (d2, .inl (T 0, 24, .inl g2)), (d3, .inl (T 0, 24, .inl g3)), (d4, .inl (T 0, 24, .inl g4)), (d5, .inl (T 0, 24, .inl g5)), (d6, .inl (T 0, 24, .inl g6)), (d7, .inl (T 0, 24, .inl g7))] hP hD rfl
  refine lv_iconst (v := 0) hx hb dX2_become_68 (by decide +kernel) ?_
  refine lv_istore_n (lv' := [(2, .int 0), (0, .ref h0), (1, .ref o1)]) hx hb dX2_become_69 rfl hl (by decide +kernel) rfl (fun ls hl => ?_)
  have hok := okC.cpy hokg hok
  refine loopW (σ := (Int32) × (Nat → Int32) × (Nat → Int32) × (Nat → Int32)) (fun x9 ls H locs => lv_has ls 3 [(2, .int x9.1), (0, .ref h0), (1, .ref o1)] ∧ va_P D vwCl [(h0, .inr (1, [.int k0, .ref c1, .ref c2, .ref c3, .ref c4, .ref c5, .ref c6, .ref c7])), (c1, .inl (T 0, 24, .inl (va_cpy g1 f1 0 0 24))), (c2, .inl (T 0, 24, .inl (va_cpy g2 f2 0 0 24))), (c3, .inl (T 0, 24, .inl (va_cpy g3 f3 0 0 24))), (c4, .inl (T 0, 24, .inl (va_cpy g4 f4 0 0 24))), (c5, .inl (T 0, 24, .inl x9.2.1)), (c6, .inl (T 0, 24, .inl x9.2.2.1)), (c7, .inl (T 0, 24, .inl x9.2.2.2)), (o1, .inr (1, [.int k0, .ref d1, .ref d2, .ref d3, .ref d4, .ref d5, .ref d6, .ref d7])), (d1, .inl (T 0, 24, .inl g1)), (d2, .inl (T 0, 24, .inl g2)), (d3, .inl (T 0, 24, .inl g3)), (d4, .inl (T 0, 24, .inl g4)), (d5, .inl (T 0, 24, .inl g5)), (d6, .inl (T 0, 24, .inl g6)), (d7, .inl (T 0, 24, .inl g7))] H ∧ va_D A [(h0, .inr (1, [.int k0, .ref c1, .ref c2, .ref c3, .ref c4, .ref c5, .ref c6, .ref c7])), (c1, .inl (T 0, 24, .inl (va_cpy g1 f1 0 0 24))), (c2, .inl (T 0, 24, .inl (va_cpy g2 f2 0 0 24))), (c3, .inl (T 0, 24, .inl (va_cpy g3 f3 0 0 24))), (c4, .inl (T 0, 24, .inl (va_cpy g4 f4 0 0 24))), (c5, .inl (T 0, 24, .inl x9.2.1)), (c6, .inl (T 0, 24, .inl x9.2.2.1)), (c7, .inl (T 0, 24, .inl x9.2.2.2)), (o1, .inr (1, [.int k0, .ref d1, .ref d2, .ref d3, .ref d4, .ref d5, .ref d6, .ref d7])), (d1, .inl (T 0, 24, .inl g1)), (d2, .inl (T 0, 24, .inl g2)), (d3, .inl (T 0, 24, .inl g3)), (d4, .inl (T 0, 24, .inl g4)), (d5, .inl (T 0, 24, .inl g5)), (d6, .inl (T 0, 24, .inl g6)), (d7, .inl (T 0, 24, .inl g7))] ∧ va_S A s.heap H locs ∧ (0 ≤ x9.1.toInt ∧ okC (va_cpy g1 f1 0 0 24) (va_cpy g3 f3 0 0 24) (va_cpy g4 f4 0 0 24) x9.2.1 ∧ ∀ j : Nat, (j : Int) < x9.1.toInt → mesP (va_cpy g1 f1 0 0 24) (va_cpy g2 f2 0 0 24) (va_cpy g3 f3 0 0 24) (va_cpy g4 f4 0 0 24) x9.2.1 x9.2.2.1 x9.2.2.2 j)) (fun x9 => (24 - x9.1.toInt).toNat) (fun x9 ls H locs hI ih => ?_) (0, f5, f6, f7) ls ⟨lv_sub hl [0, 1, 2] rfl, hP.sub [0, 1, 2, 3, 4, 5, 6, 7, 8, 9, 10, 11, 12, 13, 14, 15] rfl, hD.sub [0, 1, 2, 3, 4, 5, 6, 7, 8, 9, 10, 11, 12, 13, 14, 15] (by decide +kernel) rfl, hS, ⟨(by (try dsimp only); decide), hok, (fun j hj => absurd hj (by (try dsimp only); rw [ti_0]; omega))⟩⟩
  obtain ⟨ii, v5, v6, v7⟩ := x9
  obtain ⟨hl, hP, hD, hS, hinv⟩ := hI
  have hl : lv_has ls 3 [(2, .int ii), (0, .ref h0), (1, .ref o1)] := hl
  have hP : va_P D vwCl [(h0, .inr (1, [.int k0, .ref c1, .ref c2, .ref c3, .ref c4, .ref c5, .ref c6, .ref c7])), (c1, .inl (T 0, 24, .inl (va_cpy g1 f1 0 0 24))), (c2, .inl (T 0, 24, .inl (va_cpy g2 f2 0 0 24))), (c3, .inl (T 0, 24, .inl (va_cpy g3 f3 0 0 24))), (c4, .inl (T 0, 24, .inl (va_cpy g4 f4 0 0 24))), (c5, .inl (T 0, 24, .inl v5)), (c6, .inl (T 0, 24, .inl v6)), (c7, .inl (T 0, 24, .inl v7)), (o1, .inr (1, [.int k0, .ref d1, .ref d2, .ref d3, .ref d4, .ref d5, .ref d6, .ref d7])), (d1, .inl (T 0, 24, .inl g1)), (d2, .inl (T 0, 24, .inl g2)), (d3, .inl (T 0, 24, .inl g3)), (d4, .inl (T 0, 24, .inl g4)), (d5, .inl (T 0, 24, .inl g5)), (d6, .inl (T 0, 24, .inl g6)), (d7, .inl (T 0, 24, .inl g7))] H := hP
  have hD : va_D A [(h0, .inr (1, [.int k0, .ref c1, .ref c2, .ref c3, .ref c4, .ref c5, .ref c6, .ref c7])), (c1, .inl (T 0, 24, .inl (va_cpy g1 f1 0 0 24))), (c2, .inl (T 0, 24, .inl (va_cpy g2 f2 0 0 24))), (c3, .inl (T 0, 24, .inl (va_cpy g3 f3 0 0 24))), (c4, .inl (T 0, 24, .inl (va_cpy g4 f4 0 0 24))), (c5, .inl (T 0, 24, .inl v5)), (c6, .inl (T 0, 24, .inl v6)), (c7, .inl (T 0, 24, .inl v7)), (o1, .inr (1, [.int k0, .ref d1, .ref d2, .ref d3, .ref d4, .ref d5, .ref d6, .ref d7])), (d1, .inl (T 0, 24, .inl g1)), (d2, .inl (T 0, 24, .inl g2)), (d3, .inl (T 0, 24, .inl g3)), (d4, .inl (T 0, 24, .inl g4)), (d5, .inl (T 0, 24, .inl g5)), (d6, .inl (T 0, 24, .inl g6)), (d7, .inl (T 0, 24, .inl g7))] := hD
  have hinv : 0 ≤ ii.toInt ∧ okC (va_cpy g1 f1 0 0 24) (va_cpy g3 f3 0 0 24) (va_cpy g4 f4 0 0 24) v5 ∧ ∀ j : Nat, (j : Int) < ii.toInt → mesP (va_cpy g1 f1 0 0 24) (va_cpy g2 f2 0 0 24) (va_cpy g3 f3 0 0 24) (va_cpy g4 f4 0 0 24) v5 v6 v7 j := hinv
  obtain ⟨hii, hok, hme⟩ := hinv
  refine lv_iload_n hx hb dX2_become_70 rfl (lv_at hl 0 rfl) ?_
  refine lv_aload_n hx hb dX2_become_71 rfl (lv_at hl 1 rfl) ?_
  refine va_get (D := D) (ci := 1) (v := .int k0) (C := RX2) (T := TX2) (N := 8) hx hb hts in_X2_become_X2 hown hE.1 hP 0 rfl rfl 0 (by decide +kernel) (hts (.fieldLink RX2 9 "ClauseBook$Clauses" "size" "I") (List.mem_of_getElem? (i := 1) rfl)) (fun _ h9 => h9) rfl dX2_become_72 ?_
  refine lv_icmp_ge (tgt := 89) hx hb dX2_become_75 (by decide +kernel) (fun c_1 => ?_) (fun c_1 => ?_)
  · rw [fa_le] at c_1
    exact W.vret hx hb hr (fun t ht hW => ⟨⟨(v5, v6, v7), rfl, ⟨hok, (fun j hj => hme j (by omega))⟩, by rw [ht]; exact hP.sub [0, 1, 2, 3, 4, 5, 6, 7, 8, 9, 10, 11, 12, 13, 14, 15] rfl, hD.sub [0, 1, 2, 3, 4, 5, 6, 7, 8, 9, 10, 11, 12, 13, 14, 15] (by decide +kernel) rfl⟩, hS.F ht⟩) hS.2.2 dX2_become_89
  · rw [fa_le] at c_1
    refine lv_aload_n hx hb dX2_become_78 rfl (lv_at hl 1 rfl) ?_
    refine lv_iload_n hx hb dX2_become_79 rfl (lv_at hl 0 rfl) ?_
    have hFc := va_free (wc := [(h0, .inr (1, [.int k0, .ref c1, .ref c2, .ref c3, .ref c4, .ref c5, .ref c6, .ref c7])), (c1, .inl (T 0, 24, .inl (va_cpy g1 f1 0 0 24))), (c2, .inl (T 0, 24, .inl (va_cpy g2 f2 0 0 24))), (c3, .inl (T 0, 24, .inl (va_cpy g3 f3 0 0 24))), (c4, .inl (T 0, 24, .inl (va_cpy g4 f4 0 0 24))), (c5, .inl (T 0, 24, .inl v5)), (c6, .inl (T 0, 24, .inl v6)), (c7, .inl (T 0, 24, .inl v7))]) hD hS hA [0, 1, 2, 3, 4, 5, 6, 7] rfl
    refine va_callv (va_runV (As := [.int ii]) (rest := []) ⟨hx, hb, hml, hown, hts⟩ (c_X2_measure l D T ad sa av ta _ h0 k0 c1 c2 c3 c4 c5 c6 c7 (va_cpy g1 f1 0 0 24) (va_cpy g2 f2 0 0 24) (va_cpy g3 f3 0 0 24) (va_cpy g4 f4 0 0 24) v5 v6 v7 ii (by omega) hok) (cwV 1 hts gX2_become_X2_measure rfl rfl rfl hv_X2_measure ⟨Nat.le_of_ble_eq_true rfl, Nat.le_of_ble_eq_true rfl⟩) (pWk_V (q := (RX2, TX2, 8)) (ci := 1) (q0 := 0) hP hE hD hV hS hFc rfl rfl [0, 1, 2, 3, 4, 5, 6, 7] (by decide +kernel) rfl rfl) rfl rfl hl.1 rfl (lv_room (Nat.le_of_ble_eq_true rfl)) dX2_become_80 ⟨Nat.le_of_ble_eq_true rfl, Nat.le_of_ble_eq_true rfl⟩) hS (fun q _ h => hFc q h) hFc (fun u_3 t H1 locs ht hvm hr_2 hB hz1 hk1 hS => ?_)
    obtain ⟨f_4, f_5, f_6⟩ := u_3
    have hef_4 : ∀ j : Nat, j < 24 → (f_4 j).toInt ≤ 6 := hr_2.1
    have hmqf_4 : mesQ (va_cpy g1 f1 0 0 24) (va_cpy g2 f2 0 0 24) (va_cpy g3 f3 0 0 24) (va_cpy g4 f4 0 0 24) v5 v6 v7 ii f_4 f_5 f_6 := hr_2.2
    obtain ⟨hP1, hD1⟩ := hB
    rw [ht] at hP1
    obtain ⟨hP, hD⟩ := va_repl [(h0, .inr (1, [.int k0, .ref c1, .ref c2, .ref c3, .ref c4, .ref c5, .ref c6, .ref c7])), (c1, .inl (T 0, 24, .inl (va_cpy g1 f1 0 0 24))), (c2, .inl (T 0, 24, .inl (va_cpy g2 f2 0 0 24))), (c3, .inl (T 0, 24, .inl (va_cpy g3 f3 0 0 24))), (c4, .inl (T 0, 24, .inl (va_cpy g4 f4 0 0 24))), (c5, .inl (T 0, 24, .inl f_4)), (c6, .inl (T 0, 24, .inl f_5)), (c7, .inl (T 0, 24, .inl f_6)), (o1, .inr (1, [.int k0, .ref d1, .ref d2, .ref d3, .ref d4, .ref d5, .ref d6, .ref d7])), (d1, .inl (T 0, 24, .inl g1)), (d2, .inl (T 0, 24, .inl g2)), (d3, .inl (T 0, 24, .inl g3)), (d4, .inl (T 0, 24, .inl g4)), (d5, .inl (T 0, 24, .inl g5)), (d6, .inl (T 0, 24, .inl g6)), (d7, .inl (T 0, 24, .inl g7))] hP hD [0, 1, 2, 3, 4, 5, 6, 7] [0, 1, 2, 3, 4, 5, 6, 7] rfl (by decide +kernel) rfl rfl rfl hk1 hP1
    clear hP1 hD1 hFc
    generalize H1 = H at hP hS ⊢
    obtain ⟨z_7, ez_7⟩ : ∃ y : Int32, y = ii + 1 := ⟨_, rfl⟩
    refine lv_iinc (v := z_7) (lv' := [(2, .int z_7), (0, .ref h0), (1, .ref o1)]) hx hb dX2_become_83 hl (k := 0) rfl (by rw [ez_7]; rfl) (by decide +kernel) rfl (fun ls hl => ?_)
    refine lv_goto (tgt := 70) hx hb dX2_become_86 (by decide +kernel) ?_
    exact ih (z_7, f_4, f_5, f_6) ls _ _ ⟨lv_sub hl [0, 1, 2] rfl, hP.sub [0, 1, 2, 3, 4, 5, 6, 7, 8, 9, 10, 11, 12, 13, 14, 15] rfl, hD.sub [0, 1, 2, 3, 4, 5, 6, 7, 8, 9, 10, 11, 12, 13, 14, 15] (by decide +kernel) rfl, hS, ⟨(by subst_vars; (try dsimp only); rw [inc1 (n := 24) (by omega) (by decide +kernel)]; omega), okC.ends hok hef_4, mes_loop hok (by omega) (by rw [ez_7]; exact inc1 (n := 24) (by omega) (by decide +kernel)) hme hmqf_4⟩⟩ (by subst_vars; (try dsimp only); rw [inc1 (n := 24) (by omega) (by decide +kernel)]; omega)
end
section
theorem dX6_become_0 : decode cX6_become 0 = .ok (.aload_n 0, 1) := by decide +kernel
theorem dX6_become_1 : decode cX6_become 1 = .ok (.getfield 12, 3) := by decide +kernel
theorem dX6_become_11 : decode cX6_become 11 = .ok (.aload_n 0, 1) := by decide +kernel
theorem dX6_become_12 : decode cX6_become 12 = .ok (.getfield 21, 3) := by decide +kernel
theorem dX6_become_15 : decode cX6_become 15 = .ok (.aload_n 1, 1) := by decide +kernel
theorem dX6_become_16 : decode cX6_become 16 = .ok (.getfield 21, 3) := by decide +kernel
theorem dX6_become_19 : decode cX6_become 19 = .ok (.invokevirtual 36, 3) := by decide +kernel
theorem dX6_become_22 : decode cX6_become 22 = .ok (.iconst 0, 1) := by decide +kernel
theorem dX6_become_23 : decode cX6_become 23 = .ok (.istore_n 2, 1) := by decide +kernel
theorem dX6_become_24 : decode cX6_become 24 = .ok (.iload_n 2, 1) := by decide +kernel
theorem dX6_become_25 : decode cX6_become 25 = .ok (.iconst 3, 1) := by decide +kernel
theorem dX6_become_26 : decode cX6_become 26 = .ok (.if_icmp .ge 24, 3) := by decide +kernel
theorem dX6_become_29 : decode cX6_become 29 = .ok (.aload_n 0, 1) := by decide +kernel
theorem dX6_become_30 : decode cX6_become 30 = .ok (.getfield 27, 3) := by decide +kernel
theorem dX6_become_33 : decode cX6_become 33 = .ok (.iload_n 2, 1) := by decide +kernel
theorem dX6_become_34 : decode cX6_become 34 = .ok (.aaload, 1) := by decide +kernel
theorem dX6_become_35 : decode cX6_become 35 = .ok (.aload_n 1, 1) := by decide +kernel
theorem dX6_become_36 : decode cX6_become 36 = .ok (.getfield 27, 3) := by decide +kernel
theorem dX6_become_39 : decode cX6_become 39 = .ok (.iload_n 2, 1) := by decide +kernel
theorem dX6_become_4 : decode cX6_become 4 = .ok (.aload_n 1, 1) := by decide +kernel
theorem dX6_become_40 : decode cX6_become 40 = .ok (.aaload, 1) := by decide +kernel
theorem dX6_become_41 : decode cX6_become 41 = .ok (.invokevirtual 39, 3) := by decide +kernel
theorem dX6_become_44 : decode cX6_become 44 = .ok (.iinc 2 1, 3) := by decide +kernel
theorem dX6_become_47 : decode cX6_become 47 = .ok (.goto (-23), 3) := by decide +kernel
theorem dX6_become_5 : decode cX6_become 5 = .ok (.getfield 12, 3) := by decide +kernel
theorem dX6_become_50 : decode cX6_become 50 = .ok (.return_, 1) := by decide +kernel
theorem dX6_become_8 : decode cX6_become 8 = .ok (.invokevirtual 32, 3) := by decide +kernel
set_option maxRecDepth 20000 in
theorem ggX6_become_X1_become : GoodIn wsX6_become wsX1_become := goodIn_r _ [54, 55, 56, 57, 24, 25, 26, 76, 77] rfl (by decide +kernel)
set_option maxRecDepth 20000 in
theorem ggX6_become_X2_become : GoodIn wsX6_become wsX2_become := goodIn_r _ [20, 21, 22, 23, 24, 25, 26, 27, 28, 29, 30, 31, 32, 19, 33, 34, 35, 36, 37, 38, 39, 40, 41, 42, 43, 44, 45, 46, 47, 48, 49, 68, 69, 70, 71, 72, 73, 74, 75] rfl (by decide +kernel)
set_option maxRecDepth 20000 in
theorem ggX6_become_X8_become : GoodIn wsX6_become wsX8_become := goodIn_r _ [8, 9, 10, 11, 12, 13, 14, 15, 61, 62, 63, 64, 65, 66, 67] rfl (by decide +kernel)
set_option maxRecDepth 20000 in
theorem gX6_become_X1_become : GoodIn wsX6_become (wsV RX6 39 RX1 yX1_become wsX1_become) := goodIn_app (goodIn_r _ [50, 51, 52, 53] rfl (by decide +kernel)) ggX6_become_X1_become
set_option maxRecDepth 20000 in
theorem gX6_become_X2_become : GoodIn wsX6_become (wsV RX6 36 RX2 yX2_become wsX2_become) := goodIn_app (goodIn_r _ [16, 17, 18, 19] rfl (by decide +kernel)) ggX6_become_X2_become
set_option maxRecDepth 20000 in
theorem gX6_become_X8_become : GoodIn wsX6_become (wsV RX6 32 RX8 yX8_become wsX8_become) := goodIn_app (goodIn_r _ [4, 5, 6, 7] rfl (by decide +kernel)) ggX6_become_X8_become
theorem hv_X1_become : yX1_become.cls = RX1 ∧ yX1_become.cls ≠ "java/lang/invoke/MethodHandle" ∧ yX1_become.cls ≠ "java/lang/invoke/VarHandle" ∧ (parseMethodDescriptor yX1_become.desc).map (fun d => d.parameters.length) = some 1 := by decide +kernel
theorem hv_X2_become : yX2_become.cls = RX2 ∧ yX2_become.cls ≠ "java/lang/invoke/MethodHandle" ∧ yX2_become.cls ≠ "java/lang/invoke/VarHandle" ∧ (parseMethodDescriptor yX2_become.desc).map (fun d => d.parameters.length) = some 1 := by decide +kernel
theorem hv_X8_become : yX8_become.cls = RX8 ∧ yX8_become.cls ≠ "java/lang/invoke/MethodHandle" ∧ yX8_become.cls ≠ "java/lang/invoke/VarHandle" ∧ (parseMethodDescriptor yX8_become.desc).map (fun d => d.parameters.length) = some 1 := by decide +kernel
set_option maxRecDepth 20000 in
theorem in_X6_become_X6 : ∀ w ∈ wsX60, w ∈ wsX6_become := sub_r [58, 59, 60] rfl
set_option maxHeartbeats 4000000 in
set_option maxRecDepth 100000 in
theorem c_X6_become (l : Launch) (D : va_G) (T : Nat → ClassId) (ad sa av : Nat → Nat) (ta : Nat) (sz : Nat) (h0 : Nat) (o1 : Nat) (la1 : Nat) (cl1 : Nat) (ba1 : Nat) (la2 : Nat) (cl2 : Nat) (ba2 : Nat) (c1 : Nat) (c2 : Nat) (c3 : Nat) (c4 : Nat) (c5 : Nat) (c6 : Nat) (c7 : Nat) (d1 : Nat) (d2 : Nat) (d3 : Nat) (d4 : Nat) (d5 : Nat) (d6 : Nat) (d7 : Nat) (b0 : Nat) (b1 : Nat) (b2 : Nat) (a0 : Nat) (a1 : Nat) (a2 : Nat) (e0 : Nat) (e1 : Nat) (e2 : Nat) (z0 : Nat) (z1 : Nat) (z2 : Nat) (l9 : Nat → Int32) (k9 : Nat → Int32) (n0 : Int32) (k0 : Int32) (f1 : Nat → Int32) (f2 : Nat → Int32) (f3 : Nat → Int32) (f4 : Nat → Int32) (f5 : Nat → Int32) (f6 : Nat → Int32) (f7 : Nat → Int32) (g1 : Nat → Int32) (g2 : Nat → Int32) (g3 : Nat → Int32) (g4 : Nat → Int32) (g5 : Nat → Int32) (g6 : Nat → Int32) (g7 : Nat → Int32) (bm : Nat → Int32) (bk : Nat → Int32) (bf : Nat → Nat → Int32) (bg : Nat → Nat → Int32) (hk0 : 0 ≤ k0.toInt ∧ k0.toInt ≤ 24) (hok : okC f1 f3 f4 f5) (hokg : okC g1 g3 g4 g5) : Met l yX6_become wsX6_become ({ frames := 3, cells := 0, slots := 0, locals := 102 }) (pWk [.ref h0, .ref o1] D T [(h0, .inr (4, [.ref la1, .ref cl1, .ref ba1])), (la1, .inr (5, [.int (l9 0), .int (l9 1), .int (l9 2), .int (l9 3), .int (l9 4), .int (l9 5), .int (l9 6)])), (cl1, .inr (1, [.int n0, .ref c1, .ref c2, .ref c3, .ref c4, .ref c5, .ref c6, .ref c7])), (c1, .inl (T 0, 24, .inl f1)), (c2, .inl (T 0, 24, .inl f2)), (c3, .inl (T 0, 24, .inl f3)), (c4, .inl (T 0, 24, .inl f4)), (c5, .inl (T 0, 24, .inl f5)), (c6, .inl (T 0, 24, .inl f6)), (c7, .inl (T 0, 24, .inl f7)), (ba1, .inl (T 5, 3, .inr (.inr (.inr (.inr (va_up (va_up (va_up (fun _ => none) 0 (some b0)) 1 (some b1)) 2 (some b2))))))), (b0, .inr (0, [.int (bm 0), .ref a0])), (b1, .inr (0, [.int (bm 1), .ref a1])), (b2, .inr (0, [.int (bm 2), .ref a2])), (a0, .inl (T 0, 12, .inl (bf 0))), (a1, .inl (T 0, 12, .inl (bf 1))), (a2, .inl (T 0, 12, .inl (bf 2))), (o1, .inr (4, [.ref la2, .ref cl2, .ref ba2])), (la2, .inr (5, [.int (k9 0), .int (k9 1), .int (k9 2), .int (k9 3), .int (k9 4), .int (k9 5), .int (k9 6)])), (cl2, .inr (1, [.int k0, .ref d1, .ref d2, .ref d3, .ref d4, .ref d5, .ref d6, .ref d7])), (d1, .inl (T 0, 24, .inl g1)), (d2, .inl (T 0, 24, .inl g2)), (d3, .inl (T 0, 24, .inl g3)), (d4, .inl (T 0, 24, .inl g4)), (d5, .inl (T 0, 24, .inl g5)), (d6, .inl (T 0, 24, .inl g6)), (d7, .inl (T 0, 24, .inl g7)), (ba2, .inl (T 5, 3, .inr (.inr (.inr (.inr (va_up (va_up (va_up (fun _ => none) 0 (some e0)) 1 (some e1)) 2 (some e2))))))), (e0, .inr (0, [.int (bk 0), .ref z0])), (e1, .inr (0, [.int (bk 1), .ref z1])), (e2, .inr (0, [.int (bk 2), .ref z2])), (z0, .inl (T 0, 12, .inl (bg 0))), (z1, .inl (T 0, 12, .inl (bg 1))), (z2, .inl (T 0, 12, .inl (bg 2)))] sz ad sa av ta) (va_Qv (fun (u : (Nat → Int32) × (Nat → Int32) × (Nat → Int32)) => okC (va_cpy g1 f1 0 0 24) (va_cpy g3 f3 0 0 24) (va_cpy g4 f4 0 0 24) u.1 ∧ ∀ j : Nat, (j : Int) < k0.toInt → mesP (va_cpy g1 f1 0 0 24) (va_cpy g2 f2 0 0 24) (va_cpy g3 f3 0 0 24) (va_cpy g4 f4 0 0 24) u.1 u.2.1 u.2.2 j) (bW D (va_A [(h0, .inr (4, [.ref la1, .ref cl1, .ref ba1])), (la1, .inr (5, [.int (l9 0), .int (l9 1), .int (l9 2), .int (l9 3), .int (l9 4), .int (l9 5), .int (l9 6)])), (cl1, .inr (1, [.int n0, .ref c1, .ref c2, .ref c3, .ref c4, .ref c5, .ref c6, .ref c7])), (c1, .inl (T 0, 24, .inl f1)), (c2, .inl (T 0, 24, .inl f2)), (c3, .inl (T 0, 24, .inl f3)), (c4, .inl (T 0, 24, .inl f4)), (c5, .inl (T 0, 24, .inl f5)), (c6, .inl (T 0, 24, .inl f6)), (c7, .inl (T 0, 24, .inl f7)), (ba1, .inl (T 5, 3, .inr (.inr (.inr (.inr (va_up (va_up (va_up (fun _ => none) 0 (some b0)) 1 (some b1)) 2 (some b2))))))), (b0, .inr (0, [.int (bm 0), .ref a0])), (b1, .inr (0, [.int (bm 1), .ref a1])), (b2, .inr (0, [.int (bm 2), .ref a2])), (a0, .inl (T 0, 12, .inl (bf 0))), (a1, .inl (T 0, 12, .inl (bf 1))), (a2, .inl (T 0, 12, .inl (bf 2))), (o1, .inr (4, [.ref la2, .ref cl2, .ref ba2])), (la2, .inr (5, [.int (k9 0), .int (k9 1), .int (k9 2), .int (k9 3), .int (k9 4), .int (k9 5), .int (k9 6)])), (cl2, .inr (1, [.int k0, .ref d1, .ref d2, .ref d3, .ref d4, .ref d5, .ref d6, .ref d7])), (d1, .inl (T 0, 24, .inl g1)), (d2, .inl (T 0, 24, .inl g2)), (d3, .inl (T 0, 24, .inl g3)), (d4, .inl (T 0, 24, .inl g4)), (d5, .inl (T 0, 24, .inl g5)), (d6, .inl (T 0, 24, .inl g6)), (d7, .inl (T 0, 24, .inl g7)), (ba2, .inl (T 5, 3, .inr (.inr (.inr (.inr (va_up (va_up (va_up (fun _ => none) 0 (some e0)) 1 (some e1)) 2 (some e2))))))), (e0, .inr (0, [.int (bk 0), .ref z0])), (e1, .inr (0, [.int (bk 1), .ref z1])), (e2, .inr (0, [.int (bk 2), .ref z2])), (z0, .inl (T 0, 12, .inl (bg 0))), (z1, .inl (T 0, 12, .inl (bg 1))), (z2, .inl (T 0, 12, .inl (bg 2)))] sz) (fun (u : (Nat → Int32) × (Nat → Int32) × (Nat → Int32)) => [(h0, .inr (4, [.ref la1, .ref cl1, .ref ba1])), (la1, .inr (5, [.int (k9 0), .int (k9 1), .int (k9 2), .int (k9 3), .int (k9 4), .int (k9 5), .int (k9 6)])), (cl1, .inr (1, [.int k0, .ref c1, .ref c2, .ref c3, .ref c4, .ref c5, .ref c6, .ref c7])), (c1, .inl (T 0, 24, .inl (va_cpy g1 f1 0 0 24))), (c2, .inl (T 0, 24, .inl (va_cpy g2 f2 0 0 24))), (c3, .inl (T 0, 24, .inl (va_cpy g3 f3 0 0 24))), (c4, .inl (T 0, 24, .inl (va_cpy g4 f4 0 0 24))), (c5, .inl (T 0, 24, .inl u.1)), (c6, .inl (T 0, 24, .inl u.2.1)), (c7, .inl (T 0, 24, .inl u.2.2)), (ba1, .inl (T 5, 3, .inr (.inr (.inr (.inr (va_up (va_up (va_up (fun _ => none) 0 (some b0)) 1 (some b1)) 2 (some b2))))))), (b0, .inr (0, [.int (bk 0), .ref a0])), (b1, .inr (0, [.int (bk 1), .ref a1])), (b2, .inr (0, [.int (bk 2), .ref a2])), (a0, .inl (T 0, 12, .inl (va_cpy (bg 0) (bf 0) 0 0 12))), (a1, .inl (T 0, 12, .inl (va_cpy (bg 1) (bf 1) 0 0 12))), (a2, .inl (T 0, 12, .inl (va_cpy (bg 2) (bf 2) 0 0 12))), (o1, .inr (4, [.ref la2, .ref cl2, .ref ba2])), (la2, .inr (5, [.int (k9 0), .int (k9 1), .int (k9 2), .int (k9 3), .int (k9 4), .int (k9 5), .int (k9 6)])), (cl2, .inr (1, [.int k0, .ref d1, .ref d2, .ref d3, .ref d4, .ref d5, .ref d6, .ref d7])), (d1, .inl (T 0, 24, .inl g1)), (d2, .inl (T 0, 24, .inl g2)), (d3, .inl (T 0, 24, .inl g3)), (d4, .inl (T 0, 24, .inl g4)), (d5, .inl (T 0, 24, .inl g5)), (d6, .inl (T 0, 24, .inl g6)), (d7, .inl (T 0, 24, .inl g7)), (ba2, .inl (T 5, 3, .inr (.inr (.inr (.inr (va_up (va_up (va_up (fun _ => none) 0 (some e0)) 1 (some e1)) 2 (some e2))))))), (e0, .inr (0, [.int (bk 0), .ref z0])), (e1, .inr (0, [.int (bk 1), .ref z1])), (e2, .inr (0, [.int (bk 2), .ref z2])), (z0, .inl (T 0, 12, .inl (bg 0))), (z1, .inl (T 0, 12, .inl (bg 1))), (z2, .inl (T 0, 12, .inl (bg 2)))])) (va_A [(h0, .inr (4, [.ref la1, .ref cl1, .ref ba1])), (la1, .inr (5, [.int (l9 0), .int (l9 1), .int (l9 2), .int (l9 3), .int (l9 4), .int (l9 5), .int (l9 6)])), (cl1, .inr (1, [.int n0, .ref c1, .ref c2, .ref c3, .ref c4, .ref c5, .ref c6, .ref c7])), (c1, .inl (T 0, 24, .inl f1)), (c2, .inl (T 0, 24, .inl f2)), (c3, .inl (T 0, 24, .inl f3)), (c4, .inl (T 0, 24, .inl f4)), (c5, .inl (T 0, 24, .inl f5)), (c6, .inl (T 0, 24, .inl f6)), (c7, .inl (T 0, 24, .inl f7)), (ba1, .inl (T 5, 3, .inr (.inr (.inr (.inr (va_up (va_up (va_up (fun _ => none) 0 (some b0)) 1 (some b1)) 2 (some b2))))))), (b0, .inr (0, [.int (bm 0), .ref a0])), (b1, .inr (0, [.int (bm 1), .ref a1])), (b2, .inr (0, [.int (bm 2), .ref a2])), (a0, .inl (T 0, 12, .inl (bf 0))), (a1, .inl (T 0, 12, .inl (bf 1))), (a2, .inl (T 0, 12, .inl (bf 2))), (o1, .inr (4, [.ref la2, .ref cl2, .ref ba2])), (la2, .inr (5, [.int (k9 0), .int (k9 1), .int (k9 2), .int (k9 3), .int (k9 4), .int (k9 5), .int (k9 6)])), (cl2, .inr (1, [.int k0, .ref d1, .ref d2, .ref d3, .ref d4, .ref d5, .ref d6, .ref d7])), (d1, .inl (T 0, 24, .inl g1)), (d2, .inl (T 0, 24, .inl g2)), (d3, .inl (T 0, 24, .inl g3)), (d4, .inl (T 0, 24, .inl g4)), (d5, .inl (T 0, 24, .inl g5)), (d6, .inl (T 0, 24, .inl g6)), (d7, .inl (T 0, 24, .inl g7)), (ba2, .inl (T 5, 3, .inr (.inr (.inr (.inr (va_up (va_up (va_up (fun _ => none) 0 (some e0)) 1 (some e1)) 2 (some e2))))))), (e0, .inr (0, [.int (bk 0), .ref z0])), (e1, .inr (0, [.int (bk 1), .ref z1])), (e2, .inr (0, [.int (bk 2), .ref z2])), (z0, .inl (T 0, 12, .inl (bg 0))), (z1, .inl (T 0, 12, .inl (bg 1))), (z2, .inl (T 0, 12, .inl (bg 2)))] sz)) 0 0 (va_A [(h0, .inr (4, [.ref la1, .ref cl1, .ref ba1])), (la1, .inr (5, [.int (l9 0), .int (l9 1), .int (l9 2), .int (l9 3), .int (l9 4), .int (l9 5), .int (l9 6)])), (cl1, .inr (1, [.int n0, .ref c1, .ref c2, .ref c3, .ref c4, .ref c5, .ref c6, .ref c7])), (c1, .inl (T 0, 24, .inl f1)), (c2, .inl (T 0, 24, .inl f2)), (c3, .inl (T 0, 24, .inl f3)), (c4, .inl (T 0, 24, .inl f4)), (c5, .inl (T 0, 24, .inl f5)), (c6, .inl (T 0, 24, .inl f6)), (c7, .inl (T 0, 24, .inl f7)), (ba1, .inl (T 5, 3, .inr (.inr (.inr (.inr (va_up (va_up (va_up (fun _ => none) 0 (some b0)) 1 (some b1)) 2 (some b2))))))), (b0, .inr (0, [.int (bm 0), .ref a0])), (b1, .inr (0, [.int (bm 1), .ref a1])), (b2, .inr (0, [.int (bm 2), .ref a2])), (a0, .inl (T 0, 12, .inl (bf 0))), (a1, .inl (T 0, 12, .inl (bf 1))), (a2, .inl (T 0, 12, .inl (bf 2))), (o1, .inr (4, [.ref la2, .ref cl2, .ref ba2])), (la2, .inr (5, [.int (k9 0), .int (k9 1), .int (k9 2), .int (k9 3), .int (k9 4), .int (k9 5), .int (k9 6)])), (cl2, .inr (1, [.int k0, .ref d1, .ref d2, .ref d3, .ref d4, .ref d5, .ref d6, .ref d7])), (d1, .inl (T 0, 24, .inl g1)), (d2, .inl (T 0, 24, .inl g2)), (d3, .inl (T 0, 24, .inl g3)), (d4, .inl (T 0, 24, .inl g4)), (d5, .inl (T 0, 24, .inl g5)), (d6, .inl (T 0, 24, .inl g6)), (d7, .inl (T 0, 24, .inl g7)), (ba2, .inl (T 5, 3, .inr (.inr (.inr (.inr (va_up (va_up (va_up (fun _ => none) 0 (some e0)) 1 (some e1)) 2 (some e2))))))), (e0, .inr (0, [.int (bk 0), .ref z0])), (e1, .inr (0, [.int (bk 1), .ref z1])), (e2, .inr (0, [.int (bk 2), .ref z2])), (z0, .inl (T 0, 12, .inl (bg 0))), (z1, .inl (T 0, 12, .inl (bg 1))), (z2, .inl (T 0, 12, .inl (bg 2)))] sz) := by
  refine Met.ofW (cc := cX6_become) (maxL := 3) (ret := none) (by decide +kernel) rfl ?_
  intro p e s m args below meth c s₁ B hml hv
  obtain ⟨rfl, hsz, hP, hE, hD0, hV⟩ := hv
  have hx := B.exec
  have hb := B.bytes
  have hr := B.returns
  have hts := atoms_spec (ws := wsX6_become) B.pre
  have hown : s.vm.findClass RX6 = some m.cls := findClass_of_methodNamed B.named
  have hlocks := B.notSynchronized
  subst hsz
  have hD := hD0.self (sz := s.heap.size)
  generalize hAe : va_A [(h0, .inr (4, [.ref la1, .ref cl1, .ref ba1])), (la1, .inr (5, [.int (l9 0), .int (l9 1), .int (l9 2), .int (l9 3), .int (l9 4), .int (l9 5), .int (l9 6)])), (cl1, .inr (1, [.int n0, .ref c1, .ref c2, .ref c3, .ref c4, .ref c5, .ref c6, .ref c7])), (c1, .inl (T 0, 24, .inl f1)), (c2, .inl (T 0, 24, .inl f2)), (c3, .inl (T 0, 24, .inl f3)), (c4, .inl (T 0, 24, .inl f4)), (c5, .inl (T 0, 24, .inl f5)), (c6, .inl (T 0, 24, .inl f6)), (c7, .inl (T 0, 24, .inl f7)), (ba1, .inl (T 5, 3, .inr (.inr (.inr (.inr (va_up (va_up (va_up (fun _ => none) 0 (some b0)) 1 (some b1)) 2 (some b2))))))), (b0, .inr (0, [.int (bm 0), .ref a0])), (b1, .inr (0, [.int (bm 1), .ref a1])), (b2, .inr (0, [.int (bm 2), .ref a2])), (a0, .inl (T 0, 12, .inl (bf 0))), (a1, .inl (T 0, 12, .inl (bf 1))), (a2, .inl (T 0, 12, .inl (bf 2))), (o1, .inr (4, [.ref la2, .ref cl2, .ref ba2])), (la2, .inr (5, [.int (k9 0), .int (k9 1), .int (k9 2), .int (k9 3), .int (k9 4), .int (k9 5), .int (k9 6)])), (cl2, .inr (1, [.int k0, .ref d1, .ref d2, .ref d3, .ref d4, .ref d5, .ref d6, .ref d7])), (d1, .inl (T 0, 24, .inl g1)), (d2, .inl (T 0, 24, .inl g2)), (d3, .inl (T 0, 24, .inl g3)), (d4, .inl (T 0, 24, .inl g4)), (d5, .inl (T 0, 24, .inl g5)), (d6, .inl (T 0, 24, .inl g6)), (d7, .inl (T 0, 24, .inl g7)), (ba2, .inl (T 5, 3, .inr (.inr (.inr (.inr (va_up (va_up (va_up (fun _ => none) 0 (some e0)) 1 (some e1)) 2 (some e2))))))), (e0, .inr (0, [.int (bk 0), .ref z0])), (e1, .inr (0, [.int (bk 1), .ref z1])), (e2, .inr (0, [.int (bk 2), .ref z2])), (z0, .inl (T 0, 12, .inl (bg 0))), (z1, .inl (T 0, 12, .inl (bg 1))), (z2, .inl (T 0, 12, .inl (bg 2)))] s.heap.size = A at hD hV ⊢
  have hA : ∀ q : Nat, s.heap.size ≤ q → A q := fun q h => by rw [← hAe]; exact Or.inr h
  have hS : va_S A s.heap s.heap [] := va_S.rf
  have hP : va_P D vwCl [(h0, .inr (4, [.ref la1, .ref cl1, .ref ba1])), (la1, .inr (5, [.int (l9 0), .int (l9 1), .int (l9 2), .int (l9 3), .int (l9 4), .int (l9 5), .int (l9 6)])), (cl1, .inr (1, [.int n0, .ref c1, .ref c2, .ref c3, .ref c4, .ref c5, .ref c6, .ref c7])), (c1, .inl (T 0, 24, .inl f1)), (c2, .inl (T 0, 24, .inl f2)), (c3, .inl (T 0, 24, .inl f3)), (c4, .inl (T 0, 24, .inl f4)), (c5, .inl (T 0, 24, .inl f5)), (c6, .inl (T 0, 24, .inl f6)), (c7, .inl (T 0, 24, .inl f7)), (ba1, .inl (T 5, 3, .inr (.inr (.inr (.inr (va_up (va_up (va_up (fun _ => none) 0 (some b0)) 1 (some b1)) 2 (some b2))))))), (b0, .inr (0, [.int (bm 0), .ref a0])), (b1, .inr (0, [.int (bm 1), .ref a1])), (b2, .inr (0, [.int (bm 2), .ref a2])), (a0, .inl (T 0, 12, .inl (bf 0))), (a1, .inl (T 0, 12, .inl (bf 1))), (a2, .inl (T 0, 12, .inl (bf 2))), (o1, .inr (4, [.ref la2, .ref cl2, .ref ba2])), (la2, .inr (5, [.int (k9 0), .int (k9 1), .int (k9 2), .int (k9 3), .int (k9 4), .int (k9 5), .int (k9 6)])), (cl2, .inr (1, [.int k0, .ref d1, .ref d2, .ref d3, .ref d4, .ref d5, .ref d6, .ref d7])), (d1, .inl (T 0, 24, .inl g1)), (d2, .inl (T 0, 24, .inl g2)), (d3, .inl (T 0, 24, .inl g3)), (d4, .inl (T 0, 24, .inl g4)), (d5, .inl (T 0, 24, .inl g5)), (d6, .inl (T 0, 24, .inl g6)), (d7, .inl (T 0, 24, .inl g7)), (ba2, .inl (T 5, 3, .inr (.inr (.inr (.inr (va_up (va_up (va_up (fun _ => none) 0 (some e0)) 1 (some e1)) 2 (some e2))))))), (e0, .inr (0, [.int (bk 0), .ref z0])), (e1, .inr (0, [.int (bk 1), .ref z1])), (e2, .inr (0, [.int (bk 2), .ref z2])), (z0, .inl (T 0, 12, .inl (bg 0))), (z1, .inl (T 0, 12, .inl (bg 1))), (z2, .inl (T 0, 12, .inl (bg 2)))] s.heap := hP
  have hl := lv_entry ([.ref h0, .ref o1]) (n := 3) (Nat.le_of_ble_eq_true rfl)
  rw [lg_entry_eq]
  generalize (lg_sl ([.ref h0, .ref o1]) ++ List.replicate (3 - (lg_sl ([.ref h0, .ref o1])).length) Slot.unset).toArray = ls at hl ⊢
  have hl : lv_has ls 3 [(0, .ref h0), (1, .ref o1)] := hl
  clear hD0
  refine lv_aload_n hx hb dX6_become_0 rfl (lv_at hl 0 rfl) ?_
  refine va_get (D := D) (ci := 4) (v := .ref la1) (C := RX6) (T := TX6) (N := 3) hx hb hts in_X6_become_X6 hown hE.1 hP 0 rfl rfl 0 (by decide +kernel) (hts (.fieldLink RX6 12 "ClauseBook$Kept" "lattice" "LClauseBook$Lattice;") (List.mem_of_getElem? (i := 1) rfl)) (fun _ h9 => h9) rfl dX6_become_1 ?_
  refine lv_aload_n hx hb dX6_become_4 rfl (lv_at hl 1 rfl) ?_
  refine va_get (D := D) (ci := 4) (v := .ref la2) (C := RX6) (T := TX6) (N := 3) hx hb hts in_X6_become_X6 hown hE.1 hP 17 rfl rfl 0 (by decide +kernel) (hts (.fieldLink RX6 12 "ClauseBook$Kept" "lattice" "LClauseBook$Lattice;") (List.mem_of_getElem? (i := 1) rfl)) (fun _ h9 => h9) rfl dX6_become_5 ?_
  have hFc := va_free (wc := [(la1, .inr (5, [.int (l9 0), .int (l9 1), .int (l9 2), .int (l9 3), .int (l9 4), .int (l9 5), .int (l9 6)])), (la2, .inr (5, [.int (k9 0), .int (k9 1), .int (k9 2), .int (k9 3), .int (k9 4), .int (k9 5), .int (k9 6)]))]) hD hS hA [1, 18] rfl
  refine va_callv (va_runV (As := [.ref la2]) (rest := []) ⟨hx, hb, hml, hown, hts⟩ (c_X8_become l D T _ la1 la2 l9 k9) (cwV 1 hts gX6_become_X8_become rfl rfl rfl hv_X8_become ⟨Nat.le_of_ble_eq_true rfl, Nat.le_of_ble_eq_true rfl⟩) (pW_V (q := (RX8, TX8, 7)) (ci := 5) (q0 := 1) hP hE hD rfl rfl [1, 18] (by decide +kernel) rfl rfl) rfl rfl hl.1 rfl (lv_room (Nat.le_of_ble_eq_true rfl)) dX6_become_8 ⟨Nat.le_of_ble_eq_true rfl, Nat.le_of_ble_eq_true rfl⟩) hS (fun q _ h => hFc q h) hFc (fun u_2 t H1 locs ht hvm hr_1 hB hz1 hk1 hS => ?_)
  obtain ⟨hP1, hD1⟩ := hB
  rw [ht] at hP1
  obtain ⟨hP, hD⟩ := va_repl [(h0, .inr (4, [.ref la1, .ref cl1, .ref ba1])), (la1, .inr (5, [.int (k9 0), .int (k9 1), .int (k9 2), .int (k9 3), .int (k9 4), .int (k9 5), .int (k9 6)])), (cl1, .inr (1, [.int n0, .ref c1, .ref c2, .ref c3, .ref c4, .ref c5, .ref c6, .ref c7])), (c1, .inl (T 0, 24, .inl f1)), (c2, .inl (T 0, 24, .inl f2)), (c3, .inl (T 0, 24, .inl f3)), (c4, .inl (T 0, 24, .inl f4)), (c5, .inl (T 0, 24, .inl f5)), (c6, .inl (T 0, 24, .inl f6)), (c7, .inl (T 0, 24, .inl f7)), (ba1, .inl (T 5, 3, .inr (.inr (.inr (.inr (va_up (va_up (va_up (fun _ => none) 0 (some b0)) 1 (some b1)) 2 (some b2))))))), (b0, .inr (0, [.int (bm 0), .ref a0])), (b1, .inr (0, [.int (bm 1), .ref a1])), (b2, .inr (0, [.int (bm 2), .ref a2])), (a0, .inl (T 0, 12, .inl (bf 0))), (a1, .inl (T 0, 12, .inl (bf 1))), (a2, .inl (T 0, 12, .inl (bf 2))), (o1, .inr (4, [.ref la2, .ref cl2, .ref ba2])), (la2, .inr (5, [.int (k9 0), .int (k9 1), .int (k9 2), .int (k9 3), .int (k9 4), .int (k9 5), .int (k9 6)])), (cl2, .inr (1, [.int k0, .ref d1, .ref d2, .ref d3, .ref d4, .ref d5, .ref d6, .ref d7])), (d1, .inl (T 0, 24, .inl g1)), (d2, .inl (T 0, 24, .inl g2)), (d3, .inl (T 0, 24, .inl g3)), (d4, .inl (T 0, 24, .inl g4)), (d5, .inl (T 0, 24, .inl g5)), (d6, .inl (T 0, 24, .inl g6)), (d7, .inl (T 0, 24, .inl g7)), (ba2, .inl (T 5, 3, .inr (.inr (.inr (.inr (va_up (va_up (va_up (fun _ => none) 0 (some e0)) 1 (some e1)) 2 (some e2))))))), (e0, .inr (0, [.int (bk 0), .ref z0])), (e1, .inr (0, [.int (bk 1), .ref z1])), (e2, .inr (0, [.int (bk 2), .ref z2])), (z0, .inl (T 0, 12, .inl (bg 0))), (z1, .inl (T 0, 12, .inl (bg 1))), (z2, .inl (T 0, 12, .inl (bg 2)))] hP hD [1, 18] [1, 18] rfl (by decide +kernel) rfl rfl rfl hk1 hP1
  clear hP1 hD1 hFc
  generalize H1 = H at hP hS ⊢
  refine lv_aload_n hx hb dX6_become_11 rfl (lv_at hl 0 rfl) ?_
  refine va_get (D := D) (ci := 4) (v := .ref cl1) (C := RX6) (T := TX6) (N := 3) hx hb hts in_X6_become_X6 hown hE.1 hP 0 rfl rfl 1 (by decide +kernel) (hts (.fieldLink RX6 21 "ClauseBook$Kept" "clauses" "LClauseBook$Clauses;") (List.mem_of_getElem? (i := 2) rfl)) (fun _ h9 => h9) rfl dX6_become_12 ?_
  refine lv_aload_n hx hb dX6_become_15 rfl (lv_at hl 1 rfl) ?_
  refine va_get (D := D) (ci := 4) (v := .ref cl2) (C := RX6) (T := TX6) (N := 3) hx hb hts in_X6_become_X6 hown hE.1 hP 17 rfl rfl 1 (by decide +kernel) (hts (.fieldLink RX6 21 "ClauseBook$Kept" "clauses" "LClauseBook$Clauses;") (List.mem_of_getElem? (i := 2) rfl)) (fun _ h9 => h9) rfl dX6_become_16 ?_
  have hFc := va_free (wc := [(cl1, .inr (1, [.int n0, .ref c1, .ref c2, .ref c3, .ref c4, .ref c5, .ref c6, .ref c7])), (c1, .inl (T 0, 24, .inl f1)), (c2, .inl (T 0, 24, .inl f2)), (c3, .inl (T 0, 24, .inl f3)), (c4, .inl (T 0, 24, .inl f4)), (c5, .inl (T 0, 24, .inl f5)), (c6, .inl (T 0, 24, .inl f6)), (c7, .inl (T 0, 24, .inl f7)), (cl2, .inr (1, [.int k0, .ref d1, .ref d2, .ref d3, .ref d4, .ref d5, .ref d6, .ref d7])), (d1, .inl (T 0, 24, .inl g1)), (d2, .inl (T 0, 24, .inl g2)), (d3, .inl (T 0, 24, .inl g3)), (d4, .inl (T 0, 24, .inl g4)), (d5, .inl (T 0, 24, .inl g5)), (d6, .inl (T 0, 24, .inl g6)), (d7, .inl (T 0, 24, .inl g7))]) hD hS hA [2, 3, 4, 5, 6, 7, 8, 9, 19, 20, 21, 22, 23, 24, 25, 26] rfl
  refine va_callv (va_runV (As := [.ref cl2]) (rest := []) ⟨hx, hb, hml, hown, hts⟩ (c_X2_become l D T ad sa av ta _ cl1 cl2 n0 k0 c1 c2 c3 c4 c5 c6 c7 d1 d2 d3 d4 d5 d6 d7 f1 f2 f3 f4 f5 f6 f7 g1 g2 g3 g4 g5 g6 g7 (by omega) hok hokg) (cwV 1 hts gX6_become_X2_become rfl rfl rfl hv_X2_become ⟨Nat.le_of_ble_eq_true rfl, Nat.le_of_ble_eq_true rfl⟩) (pWk_V (q := (RX2, TX2, 8)) (ci := 1) (q0 := 2) hP hE hD hV hS hFc rfl rfl [2, 3, 4, 5, 6, 7, 8, 9, 19, 20, 21, 22, 23, 24, 25, 26] (by decide +kernel) rfl rfl) rfl rfl hl.1 rfl (lv_room (Nat.le_of_ble_eq_true rfl)) dX6_become_19 ⟨Nat.le_of_ble_eq_true rfl, Nat.le_of_ble_eq_true rfl⟩) hS (fun q _ h => hFc q h) hFc (fun u_4 t H1 locs ht hvm hr_3 hB hz1 hk1 hS => ?_)
  obtain ⟨f_5, f_6, f_7⟩ := u_4
  have hokf_5 : okC (va_cpy g1 f1 0 0 24) (va_cpy g3 f3 0 0 24) (va_cpy g4 f4 0 0 24) f_5 := hr_3.1
  have hmbf_5 : ∀ j : Nat, (j : Int) < (k0 : Int32).toInt → mesP (va_cpy g1 f1 0 0 24) (va_cpy g2 f2 0 0 24) (va_cpy g3 f3 0 0 24) (va_cpy g4 f4 0 0 24) f_5 f_6 f_7 j := hr_3.2
  obtain ⟨hP1, hD1⟩ := hB
  rw [ht] at hP1
  obtain ⟨hP, hD⟩ := va_repl [(h0, .inr (4, [.ref la1, .ref cl1, .ref ba1])), (la1, .inr (5, [.int (k9 0), .int (k9 1), .int (k9 2), .int (k9 3), .int (k9 4), .int (k9 5), .int (k9 6)])), (cl1, .inr (1, [.int k0, .ref c1, .ref c2, .ref c3, .ref c4, .ref c5, .ref c6, .ref c7])), (c1, .inl (T 0, 24, .inl (va_cpy g1 f1 0 0 24))), (c2, .inl (T 0, 24, .inl (va_cpy g2 f2 0 0 24))), (c3, .inl (T 0, 24, .inl (va_cpy g3 f3 0 0 24))), (c4, .inl (T 0, 24, .inl (va_cpy g4 f4 0 0 24))), (c5, .inl (T 0, 24, .inl f_5)), (c6, .inl (T 0, 24, .inl f_6)), (c7, .inl (T 0, 24, .inl f_7)), (ba1, .inl (T 5, 3, .inr (.inr (.inr (.inr (va_up (va_up (va_up (fun _ => none) 0 (some b0)) 1 (some b1)) 2 (some b2))))))), (b0, .inr (0, [.int (bm 0), .ref a0])), (b1, .inr (0, [.int (bm 1), .ref a1])), (b2, .inr (0, [.int (bm 2), .ref a2])), (a0, .inl (T 0, 12, .inl (bf 0))), (a1, .inl (T 0, 12, .inl (bf 1))), (a2, .inl (T 0, 12, .inl (bf 2))), (o1, .inr (4, [.ref la2, .ref cl2, .ref ba2])), (la2, .inr (5, [.int (k9 0), .int (k9 1), .int (k9 2), .int (k9 3), .int (k9 4), .int (k9 5), .int (k9 6)])), (cl2, .inr (1, [.int k0, .ref d1, .ref d2, .ref d3, .ref d4, .ref d5, .ref d6, .ref d7])), (d1, .inl (T 0, 24, .inl g1)), (d2, .inl (T 0, 24, .inl g2)), (d3, .inl (T 0, 24, .inl g3)), (d4, .inl (T 0, 24, .inl g4)), (d5, .inl (T 0, 24, .inl g5)), (d6, .inl (T 0, 24, .inl g6)), (d7, .inl (T 0, 24, .inl g7)), (ba2, .inl (T 5, 3, .inr (.inr (.inr (.inr (va_up (va_up (va_up (fun _ => none) 0 (some e0)) 1 (some e1)) 2 (some e2))))))), (e0, .inr (0, [.int (bk 0), .ref z0])), (e1, .inr (0, [.int (bk 1), .ref z1])), (e2, .inr (0, [.int (bk 2), .ref z2])), (z0, .inl (T 0, 12, .inl (bg 0))), (z1, .inl (T 0, 12, .inl (bg 1))), (z2, .inl (T 0, 12, .inl (bg 2)))] hP hD [2, 3, 4, 5, 6, 7, 8, 9, 19, 20, 21, 22, 23, 24, 25, 26] [2, 3, 4, 5, 6, 7, 8, 9, 19, 20, 21, 22, 23, 24, 25, 26] rfl (by decide +kernel) rfl rfl rfl hk1 hP1
  clear hP1 hD1 hFc
  generalize H1 = H at hP hS ⊢
  refine lv_iconst (v := 0) hx hb dX6_become_22 (by decide +kernel) ?_
  refine lv_istore_n (lv' := [(2, .int 0), (0, .ref h0), (1, .ref o1)]) hx hb dX6_become_23 rfl hl (by decide +kernel) rfl (fun ls hl => ?_)
  refine lv_iload_n hx hb dX6_become_24 rfl (lv_at hl 0 rfl) ?_
  refine lv_iconst (v := 3) hx hb dX6_become_25 (by decide +kernel) ?_
  refine lv_icmp_ge (tgt := 50) hx hb dX6_become_26 (by decide +kernel) (fun c9 => absurd c9 (by decide +kernel)) (fun _ => ?_)
  refine lv_aload_n hx hb dX6_become_29 rfl (lv_at hl 1 rfl) ?_
  refine va_get (D := D) (ci := 4) (v := .ref ba1) (C := RX6) (T := TX6) (N := 3) hx hb hts in_X6_become_X6 hown hE.1 hP 0 rfl rfl 2 (by decide +kernel) (hts (.fieldLink RX6 27 "ClauseBook$Kept" "bags" "[LClauseBook$Bag;") (List.mem_of_getElem? (i := 3) rfl)) (fun _ h9 => h9) rfl dX6_become_30 ?_
  refine lv_iload_n hx hb dX6_become_33 rfl (lv_at hl 0 rfl) ?_
  refine va_aldq hx hb hE.1 hP 10 5 rfl rfl (by unfold vp_in; decide) dX6_become_34 ?_
  refine W.eq (g2 := F0 m 35 ls [.ref b0]) rfl ?_
  refine lv_aload_n hx hb dX6_become_35 rfl (lv_at hl 2 rfl) ?_
  refine va_get (D := D) (ci := 4) (v := .ref ba2) (C := RX6) (T := TX6) (N := 3) hx hb hts in_X6_become_X6 hown hE.1 hP 17 rfl rfl 2 (by decide +kernel) (hts (.fieldLink RX6 27 "ClauseBook$Kept" "bags" "[LClauseBook$Bag;") (List.mem_of_getElem? (i := 3) rfl)) (fun _ h9 => h9) rfl dX6_become_36 ?_
  refine lv_iload_n hx hb dX6_become_39 rfl (lv_at hl 0 rfl) ?_
  refine va_aldq hx hb hE.1 hP 27 5 rfl rfl (by unfold vp_in; decide) dX6_become_40 ?_
  refine W.eq (g2 := F0 m 41 ls [.ref e0, .ref b0]) rfl ?_
  have hFc := va_free (wc := [(b0, .inr (0, [.int (bm 0), .ref a0])), (e0, .inr (0, [.int (bk 0), .ref z0])), (a0, .inl (T 0, 12, .inl (bf 0))), (z0, .inl (T 0, 12, .inl (bg 0)))]) hD hS hA [11, 28, 14, 31] rfl
  refine va_callv (va_runV (As := [.ref e0]) (rest := []) ⟨hx, hb, hml, hown, hts⟩ (c_X1_become l D T _ b0 e0 a0 z0 (bm 0) (bk 0) (bf 0) (bg 0)) (cwV 1 hts gX6_become_X1_become rfl rfl rfl hv_X1_become ⟨Nat.le_of_ble_eq_true rfl, Nat.le_of_ble_eq_true rfl⟩) (pW_V (q := (RX1, TX1, 2)) (ci := 0) (q0 := 11) hP hE hD rfl rfl [11, 28, 14, 31] (by decide +kernel) rfl rfl) rfl rfl hl.1 rfl (lv_room (Nat.le_of_ble_eq_true rfl)) dX6_become_41 ⟨Nat.le_of_ble_eq_true rfl, Nat.le_of_ble_eq_true rfl⟩) hS (fun q _ h => hFc q h) hFc (fun u_9 t H1 locs ht hvm hr_8 hB hz1 hk1 hS => ?_)
  obtain ⟨hP1, hD1⟩ := hB
  rw [ht] at hP1
  obtain ⟨hP, hD⟩ := va_repl [(h0, .inr (4, [.ref la1, .ref cl1, .ref ba1])), (la1, .inr (5, [.int (k9 0), .int (k9 1), .int (k9 2), .int (k9 3), .int (k9 4), .int (k9 5), .int (k9 6)])), (cl1, .inr (1, [.int k0, .ref c1, .ref c2, .ref c3, .ref c4, .ref c5, .ref c6, .ref c7])), (c1, .inl (T 0, 24, .inl (va_cpy g1 f1 0 0 24))), (c2, .inl (T 0, 24, .inl (va_cpy g2 f2 0 0 24))), (c3, .inl (T 0, 24, .inl (va_cpy g3 f3 0 0 24))), (c4, .inl (T 0, 24, .inl (va_cpy g4 f4 0 0 24))), (c5, .inl (T 0, 24, .inl f_5)), (c6, .inl (T 0, 24, .inl f_6)), (c7, .inl (T 0, 24, .inl f_7)), (ba1, .inl (T 5, 3, .inr (.inr (.inr (.inr (va_up (va_up (va_up (fun _ => none) 0 (some b0)) 1 (some b1)) 2 (some b2))))))), (b0, .inr (0, [.int (bk 0), .ref a0])), (b1, .inr (0, [.int (bm 1), .ref a1])), (b2, .inr (0, [.int (bm 2), .ref a2])), (a0, .inl (T 0, 12, .inl (va_cpy (bg 0) (bf 0) 0 0 12))), (a1, .inl (T 0, 12, .inl (bf 1))), (a2, .inl (T 0, 12, .inl (bf 2))), (o1, .inr (4, [.ref la2, .ref cl2, .ref ba2])), (la2, .inr (5, [.int (k9 0), .int (k9 1), .int (k9 2), .int (k9 3), .int (k9 4), .int (k9 5), .int (k9 6)])), (cl2, .inr (1, [.int k0, .ref d1, .ref d2, .ref d3, .ref d4, .ref d5, .ref d6, .ref d7])), (d1, .inl (T 0, 24, .inl g1)), (d2, .inl (T 0, 24, .inl g2)), (d3, .inl (T 0, 24, .inl g3)), (d4, .inl (T 0, 24, .inl g4)), (d5, .inl (T 0, 24, .inl g5)), (d6, .inl (T 0, 24, .inl g6)), (d7, .inl (T 0, 24, .inl g7)), (ba2, .inl (T 5, 3, .inr (.inr (.inr (.inr (va_up (va_up (va_up (fun _ => none) 0 (some e0)) 1 (some e1)) 2 (some e2))))))), (e0, .inr (0, [.int (bk 0), .ref z0])), (e1, .inr (0, [.int (bk 1), .ref z1])), (e2, .inr (0, [.int (bk 2), .ref z2])), (z0, .inl (T 0, 12, .inl (bg 0))), (z1, .inl (T 0, 12, .inl (bg 1))), (z2, .inl (T 0, 12, .inl (bg 2)))] hP hD [11, 28, 14, 31] [11, 14, 28, 31] rfl (by decide +kernel) rfl rfl rfl hk1 (hP1.sub [0, 2, 1, 3] rfl)
  clear hP1 hD1 hFc
  generalize H1 = H at hP hS ⊢
  refine lv_iinc (v := 1) (lv' := [(2, .int 1), (0, .ref h0), (1, .ref o1)]) hx hb dX6_become_44 hl (k := 0) rfl (by decide +kernel) (by decide +kernel) rfl (fun ls hl => ?_)
  refine lv_goto (tgt := 24) hx hb dX6_become_47 (by decide +kernel) ?_
  refine lv_iload_n hx hb dX6_become_24 rfl (lv_at hl 0 rfl) ?_
  refine lv_iconst (v := 3) hx hb dX6_become_25 (by decide +kernel) ?_
  refine lv_icmp_ge (tgt := 50) hx hb dX6_become_26 (by decide +kernel) (fun c9 => absurd c9 (by decide +kernel)) (fun _ => ?_)
  refine lv_aload_n hx hb dX6_become_29 rfl (lv_at hl 1 rfl) ?_
  refine va_get (D := D) (ci := 4) (v := .ref ba1) (C := RX6) (T := TX6) (N := 3) hx hb hts in_X6_become_X6 hown hE.1 hP 0 rfl rfl 2 (by decide +kernel) (hts (.fieldLink RX6 27 "ClauseBook$Kept" "bags" "[LClauseBook$Bag;") (List.mem_of_getElem? (i := 3) rfl)) (fun _ h9 => h9) rfl dX6_become_30 ?_
  refine lv_iload_n hx hb dX6_become_33 rfl (lv_at hl 0 rfl) ?_
  refine va_aldq hx hb hE.1 hP 10 5 rfl rfl (by unfold vp_in; decide) dX6_become_34 ?_
  refine W.eq (g2 := F0 m 35 ls [.ref b1]) rfl ?_
  refine lv_aload_n hx hb dX6_become_35 rfl (lv_at hl 2 rfl) ?_
  refine va_get (D := D) (ci := 4) (v := .ref ba2) (C := RX6) (T := TX6) (N := 3) hx hb hts in_X6_become_X6 hown hE.1 hP 17 rfl rfl 2 (by decide +kernel) (hts (.fieldLink RX6 27 "ClauseBook$Kept" "bags" "[LClauseBook$Bag;") (List.mem_of_getElem? (i := 3) rfl)) (fun _ h9 => h9) rfl dX6_become_36 ?_
  refine lv_iload_n hx hb dX6_become_39 rfl (lv_at hl 0 rfl) ?_
  refine va_aldq hx hb hE.1 hP 27 5 rfl rfl (by unfold vp_in; decide) dX6_become_40 ?_
  refine W.eq (g2 := F0 m 41 ls [.ref e1, .ref b1]) rfl ?_
  have hFc := va_free (wc := [(b1, .inr (0, [.int (bm 1), .ref a1])), (e1, .inr (0, [.int (bk 1), .ref z1])), (a1, .inl (T 0, 12, .inl (bf 1))), (z1, .inl (T 0, 12, .inl (bg 1)))]) hD hS hA [12, 29, 15, 32] rfl
  refine va_callv (va_runV (As := [.ref e1]) (rest := []) ⟨hx, hb, hml, hown, hts⟩ (c_X1_become l D T _ b1 e1 a1 z1 (bm 1) (bk 1) (bf 1) (bg 1)) (cwV 1 hts gX6_become_X1_become rfl rfl rfl hv_X1_become ⟨Nat.le_of_ble_eq_true rfl, Nat.le_of_ble_eq_true rfl⟩) (pW_V (q := (RX1, TX1, 2)) (ci := 0) (q0 := 12) hP hE hD rfl rfl [12, 29, 15, 32] (by decide +kernel) rfl rfl) rfl rfl hl.1 rfl (lv_room (Nat.le_of_ble_eq_true rfl)) dX6_become_41 ⟨Nat.le_of_ble_eq_true rfl, Nat.le_of_ble_eq_true rfl⟩) hS (fun q _ h => hFc q h) hFc (fun u_11 t H1 locs ht hvm hr_10 hB hz1 hk1 hS => ?_)
  obtain ⟨hP1, hD1⟩ := hB
  rw [ht] at hP1
  obtain ⟨hP, hD⟩ := va_repl [(h0, .inr (4, [.ref la1, .ref cl1, .ref ba1])), (la1, .inr (5, [.int (k9 0), .int (k9 1), .int (k9 2), .int (k9 3), .int (k9 4), .int (k9 5), .int (k9 6)])), (cl1, .inr (1, [.int k0, .ref c1, .ref c2, .ref c3, .ref c4, .ref c5, .ref c6, .ref c7])), (c1, .inl (T 0, 24, .inl (va_cpy g1 f1 0 0 24))), (c2, .inl (T 0, 24, .inl (va_cpy g2 f2 0 0 24))), (c3, .inl (T 0, 24, .inl (va_cpy g3 f3 0 0 24))), (c4, .inl (T 0, 24, .inl (va_cpy g4 f4 0 0 24))), (c5, .inl (T 0, 24, .inl f_5)), (c6, .inl (T 0, 24, .inl f_6)), (c7, .inl (T 0, 24, .inl f_7)), (ba1, .inl (T 5, 3, .inr (.inr (.inr (.inr (va_up (va_up (va_up (fun _ => none) 0 (some b0)) 1 (some b1)) 2 (some b2))))))), (b0, .inr (0, [.int (bk 0), .ref a0])), (b1, .inr (0, [.int (bk 1), .ref a1])), (b2, .inr (0, [.int (bm 2), .ref a2])), (a0, .inl (T 0, 12, .inl (va_cpy (bg 0) (bf 0) 0 0 12))), (a1, .inl (T 0, 12, .inl (va_cpy (bg 1) (bf 1) 0 0 12))), (a2, .inl (T 0, 12, .inl (bf 2))), (o1, .inr (4, [.ref la2, .ref cl2, .ref ba2])), (la2, .inr (5, [.int (k9 0), .int (k9 1), .int (k9 2), .int (k9 3), .int (k9 4), .int (k9 5), .int (k9 6)])), (cl2, .inr (1, [.int k0, .ref d1, .ref d2, .ref d3, .ref d4, .ref d5, .ref d6, .ref d7])), (d1, .inl (T 0, 24, .inl g1)), (d2, .inl (T 0, 24, .inl g2)), (d3, .inl (T 0, 24, .inl g3)), (d4, .inl (T 0, 24, .inl g4)), (d5, .inl (T 0, 24, .inl g5)), (d6, .inl (T 0, 24, .inl g6)), (d7, .inl (T 0, 24, .inl g7)), (ba2, .inl (T 5, 3, .inr (.inr (.inr (.inr (va_up (va_up (va_up (fun _ => none) 0 (some e0)) 1 (some e1)) 2 (some e2))))))), (e0, .inr (0, [.int (bk 0), .ref z0])), (e1, .inr (0, [.int (bk 1), .ref z1])), (e2, .inr (0, [.int (bk 2), .ref z2])), (z0, .inl (T 0, 12, .inl (bg 0))), (z1, .inl (T 0, 12, .inl (bg 1))), (z2, .inl (T 0, 12, .inl (bg 2)))] hP hD [12, 29, 15, 32] [12, 15, 29, 32] rfl (by decide +kernel) rfl rfl rfl hk1 (hP1.sub [0, 2, 1, 3] rfl)
  clear hP1 hD1 hFc
  generalize H1 = H at hP hS ⊢
  refine lv_iinc (v := 2) (lv' := [(2, .int 2), (0, .ref h0), (1, .ref o1)]) hx hb dX6_become_44 hl (k := 0) rfl (by decide +kernel) (by decide +kernel) rfl (fun ls hl => ?_)
  refine lv_goto (tgt := 24) hx hb dX6_become_47 (by decide +kernel) ?_
  refine lv_iload_n hx hb dX6_become_24 rfl (lv_at hl 0 rfl) ?_
  refine lv_iconst (v := 3) hx hb dX6_become_25 (by decide +kernel) ?_
  refine lv_icmp_ge (tgt := 50) hx hb dX6_become_26 (by decide +kernel) (fun c9 => absurd c9 (by decide +kernel)) (fun _ => ?_)
  refine lv_aload_n hx hb dX6_become_29 rfl (lv_at hl 1 rfl) ?_
  refine va_get (D := D) (ci := 4) (v := .ref ba1) (C := RX6) (T := TX6) (N := 3) hx hb hts in_X6_become_X6 hown hE.1 hP 0 rfl rfl 2 (by decide +kernel) (hts (.fieldLink RX6 27 "ClauseBook$Kept" "bags" "[LClauseBook$Bag;") (List.mem_of_getElem? (i := 3) rfl)) (fun _ h9 => h9) rfl dX6_become_30 ?_
  refine lv_iload_n hx hb dX6_become_33 rfl (lv_at hl 0 rfl) ?_
  refine va_aldq hx hb hE.1 hP 10 5 rfl rfl (by unfold vp_in; decide) dX6_become_34 ?_
  refine W.eq (g2 := F0 m 35 ls [.ref b2]) rfl ?_
  refine lv_aload_n hx hb dX6_become_35 rfl (lv_at hl 2 rfl) ?_
  refine va_get (D := D) (ci := 4) (v := .ref ba2) (C := RX6) (T := TX6) (N := 3) hx hb hts in_X6_become_X6 hown hE.1 hP 17 rfl rfl 2 (by decide +kernel) (hts (.fieldLink RX6 27 "ClauseBook$Kept" "bags" "[LClauseBook$Bag;") (List.mem_of_getElem? (i := 3) rfl)) (fun _ h9 => h9) rfl dX6_become_36 ?_
  refine lv_iload_n hx hb dX6_become_39 rfl (lv_at hl 0 rfl) ?_
  refine va_aldq hx hb hE.1 hP 27 5 rfl rfl (by unfold vp_in; decide) dX6_become_40 ?_
  refine W.eq (g2 := F0 m 41 ls [.ref e2, .ref b2]) rfl ?_
  have hFc := va_free (wc := [(b2, .inr (0, [.int (bm 2), .ref a2])), (e2, .inr (0, [.int (bk 2), .ref z2])), (a2, .inl (T 0, 12, .inl (bf 2))), (z2, .inl (T 0, 12, .inl (bg 2)))]) hD hS hA [13, 30, 16, 33] rfl
  refine va_callv (va_runV (As := [.ref e2]) (rest := []) ⟨hx, hb, hml, hown, hts⟩ (c_X1_become l D T _ b2 e2 a2 z2 (bm 2) (bk 2) (bf 2) (bg 2)) (cwV 1 hts gX6_become_X1_become rfl rfl rfl hv_X1_become ⟨Nat.le_of_ble_eq_true rfl, Nat.le_of_ble_eq_true rfl⟩) (pW_V (q := (RX1, TX1, 2)) (ci := 0) (q0 := 13) hP hE hD rfl rfl [13, 30, 16, 33] (by decide +kernel) rfl rfl) rfl rfl hl.1 rfl (lv_room (Nat.le_of_ble_eq_true rfl)) dX6_become_41 ⟨Nat.le_of_ble_eq_true rfl, Nat.le_of_ble_eq_true rfl⟩) hS (fun q _ h => hFc q h) hFc (fun u_13 t H1 locs ht hvm hr_12 hB hz1 hk1 hS => ?_)
  obtain ⟨hP1, hD1⟩ := hB
  rw [ht] at hP1
  obtain ⟨hP, hD⟩ := va_repl [(h0, .inr (4, [.ref la1, .ref cl1, .ref ba1])), (la1, .inr (5, [.int (k9 0), .int (k9 1), .int (k9 2), .int (k9 3), .int (k9 4), .int (k9 5), .int (k9 6)])), (cl1, .inr (1, [.int k0, .ref c1, .ref c2, .ref c3, .ref c4, .ref c5, .ref c6, .ref c7])), (c1, .inl (T 0, 24, .inl (va_cpy g1 f1 0 0 24))), (c2, .inl (T 0, 24, .inl (va_cpy g2 f2 0 0 24))), (c3, .inl (T 0, 24, .inl (va_cpy g3 f3 0 0 24))), (c4, .inl (T 0, 24, .inl (va_cpy g4 f4 0 0 24))), (c5, .inl (T 0, 24, .inl f_5)), (c6, .inl (T 0, 24, .inl f_6)), (c7, .inl (T 0, 24, .inl f_7)), (ba1, .inl (T 5, 3, .inr (.inr (.inr (.inr (va_up (va_up (va_up (fun _ => none) 0 (some b0)) 1 (some b1)) 2 (some b2))))))), (b0, .inr (0, [.int (bk 0), .ref a0])), (b1, .inr (0, [.int (bk 1), .ref a1])), (b2, .inr (0, [.int (bk 2), .ref a2])), (a0, .inl (T 0, 12, .inl (va_cpy (bg 0) (bf 0) 0 0 12))), (a1, .inl (T 0, 12, .inl (va_cpy (bg 1) (bf 1) 0 0 12))), (a2, .inl (T 0, 12, .inl (va_cpy (bg 2) (bf 2) 0 0 12))), (o1, .inr (4, [.ref la2, .ref cl2, .ref ba2])), (la2, .inr (5, [.int (k9 0), .int (k9 1), .int (k9 2), .int (k9 3), .int (k9 4), .int (k9 5), .int (k9 6)])), (cl2, .inr (1, [.int k0, .ref d1, .ref d2, .ref d3, .ref d4, .ref d5, .ref d6, .ref d7])), (d1, .inl (T 0, 24, .inl g1)), (d2, .inl (T 0, 24, .inl g2)), (d3, .inl (T 0, 24, .inl g3)), (d4, .inl (T 0, 24, .inl g4)), (d5, .inl (T 0, 24, .inl g5)), (d6, .inl (T 0, 24, .inl g6)), (d7, .inl (T 0, 24, .inl g7)), (ba2, .inl (T 5, 3, .inr (.inr (.inr (.inr (va_up (va_up (va_up (fun _ => none) 0 (some e0)) 1 (some e1)) 2 (some e2))))))), (e0, .inr (0, [.int (bk 0), .ref z0])), (e1, .inr (0, [.int (bk 1), .ref z1])), (e2, .inr (0, [.int (bk 2), .ref z2])), (z0, .inl (T 0, 12, .inl (bg 0))), (z1, .inl (T 0, 12, .inl (bg 1))), (z2, .inl (T 0, 12, .inl (bg 2)))] hP hD [13, 30, 16, 33] [13, 16, 30, 33] rfl (by decide +kernel) rfl rfl rfl hk1 (hP1.sub [0, 2, 1, 3] rfl)
  clear hP1 hD1 hFc
  generalize H1 = H at hP hS ⊢
  refine lv_iinc (v := 3) (lv' := [(2, .int 3), (0, .ref h0), (1, .ref o1)]) hx hb dX6_become_44 hl (k := 0) rfl (by decide +kernel) (by decide +kernel) rfl (fun ls hl => ?_)
  refine lv_goto (tgt := 24) hx hb dX6_become_47 (by decide +kernel) ?_
  refine lv_iload_n hx hb dX6_become_24 rfl (lv_at hl 0 rfl) ?_
  refine lv_iconst (v := 3) hx hb dX6_become_25 (by decide +kernel) ?_
  refine lv_icmp_ge (tgt := 50) hx hb dX6_become_26 (by decide +kernel) (fun _ => ?_) (fun c9 => absurd c9 (by decide +kernel))
  exact W.vret hx hb hr (fun t ht hW => ⟨⟨(f_5, f_6, f_7), rfl, ⟨hokf_5, hmbf_5⟩, by rw [ht]; exact hP.sub [0, 1, 2, 3, 4, 5, 6, 7, 8, 9, 10, 11, 12, 13, 14, 15, 16, 17, 18, 19, 20, 21, 22, 23, 24, 25, 26, 27, 28, 29, 30, 31, 32, 33] rfl, hD.sub [0, 1, 2, 3, 4, 5, 6, 7, 8, 9, 10, 11, 12, 13, 14, 15, 16, 17, 18, 19, 20, 21, 22, 23, 24, 25, 26, 27, 28, 29, 30, 31, 32, 33] (by decide +kernel) rfl⟩, hS.F ht⟩) hS.2.2 dX6_become_50
theorem dX12_image_0 : decode cX12_image 0 = .ok (.aload_n 0, 1) := by decide +kernel
theorem dX12_image_1 : decode cX12_image 1 = .ok (.getfield 16, 3) := by decide +kernel
theorem dX12_image_11 : decode cX12_image 11 = .ok (.aload_n 0, 1) := by decide +kernel
theorem dX12_image_12 : decode cX12_image 12 = .ok (.iconst 1, 1) := by decide +kernel
theorem dX12_image_13 : decode cX12_image 13 = .ok (.putfield 19, 3) := by decide +kernel
theorem dX12_image_16 : decode cX12_image 16 = .ok (.aload_n 0, 1) := by decide +kernel
theorem dX12_image_17 : decode cX12_image 17 = .ok (.getfield 32, 3) := by decide +kernel
theorem dX12_image_20 : decode cX12_image 20 = .ok (.getfield 138, 3) := by decide +kernel
theorem dX12_image_23 : decode cX12_image 23 = .ok (.ireturn, 1) := by decide +kernel
theorem dX12_image_4 : decode cX12_image 4 = .ok (.aload_n 0, 1) := by decide +kernel
theorem dX12_image_5 : decode cX12_image 5 = .ok (.getfield 10, 3) := by decide +kernel
theorem dX12_image_8 : decode cX12_image 8 = .ok (.invokevirtual 377, 3) := by decide +kernel
set_option maxRecDepth 20000 in
theorem ggX12_image_X6_become : GoodIn wsX12_image wsX6_become := goodIn_r _ [10, 11, 12, 13, 14, 15, 16, 17, 18, 19, 20, 21, 22, 23, 24, 25, 26, 27, 28, 29, 30, 31, 32, 33, 34, 35, 36, 37, 38, 39, 40, 41, 42, 43, 44, 45, 46, 47, 48, 49, 50, 51, 52, 53, 54, 55, 56, 57, 58, 59, 60, 61, 62, 63, 64, 65, 66, 67, 87, 88, 89, 90, 91, 92, 93, 94, 95, 96, 79, 80, 81, 82, 83, 84, 85, 86, 97, 98] rfl (by decide +kernel)
set_option maxRecDepth 20000 in
theorem gX12_image_X6_become : GoodIn wsX12_image (wsV RX12 377 RX6 yX6_become wsX6_become) := goodIn_app (goodIn_r _ [6, 7, 8, 9] rfl (by decide +kernel)) ggX12_image_X6_become
theorem hv_X6_become : yX6_become.cls = RX6 ∧ yX6_become.cls ≠ "java/lang/invoke/MethodHandle" ∧ yX6_become.cls ≠ "java/lang/invoke/VarHandle" ∧ (parseMethodDescriptor yX6_become.desc).map (fun d => d.parameters.length) = some 1 := by decide +kernel
set_option maxRecDepth 20000 in
theorem in_X12_image_X12 : ∀ w ∈ wsX120, w ∈ wsX12_image := sub_r [68, 69, 70, 71, 72, 73, 74, 75, 76, 77, 78] rfl
set_option maxRecDepth 20000 in
theorem in_X12_image_X2 : ∀ w ∈ wsX20, w ∈ wsX12_image := sub_r [79, 80, 81, 82, 83, 84, 85, 86] rfl
set_option maxHeartbeats 4000000 in
set_option maxRecDepth 100000 in
theorem c_X12_image (l : Launch) (D : va_G) (T : Nat → ClassId) (ad sa av : Nat → Nat) (ta : Nat) (sz : Nat) (h0 : Nat) (nw : Nat) (kp : Nat) (wo : Nat) (im : Int32) (w3 : Value) (w5 : Value) (w7 : Value) (w8 : Value) (w9 : Value) (w10 : Value) (la1 : Nat) (cl1 : Nat) (ba1 : Nat) (la2 : Nat) (cl2 : Nat) (ba2 : Nat) (c1 : Nat) (c2 : Nat) (c3 : Nat) (c4 : Nat) (c5 : Nat) (c6 : Nat) (c7 : Nat) (d1 : Nat) (d2 : Nat) (d3 : Nat) (d4 : Nat) (d5 : Nat) (d6 : Nat) (d7 : Nat) (b0 : Nat) (b1 : Nat) (b2 : Nat) (a0 : Nat) (a1 : Nat) (a2 : Nat) (e0 : Nat) (e1 : Nat) (e2 : Nat) (z0 : Nat) (z1 : Nat) (z2 : Nat) (l9 : Nat → Int32) (k9 : Nat → Int32) (n0 : Int32) (k0 : Int32) (f1 : Nat → Int32) (f2 : Nat → Int32) (f3 : Nat → Int32) (f4 : Nat → Int32) (f5 : Nat → Int32) (f6 : Nat → Int32) (f7 : Nat → Int32) (g1 : Nat → Int32) (g2 : Nat → Int32) (g3 : Nat → Int32) (g4 : Nat → Int32) (g5 : Nat → Int32) (g6 : Nat → Int32) (g7 : Nat → Int32) (bm : Nat → Int32) (bk : Nat → Int32) (bf : Nat → Nat → Int32) (bg : Nat → Nat → Int32) (hk0 : 0 ≤ k0.toInt ∧ k0.toInt ≤ 24) (hok : okC f1 f3 f4 f5) (hokg : okC g1 g3 g4 g5) : Met l yX12_image wsX12_image ({ frames := 4, cells := 0, slots := 0, locals := 124 }) (pWk [.ref h0] D T [(h0, .inr (9, [.ref nw, .ref kp, .int im, w3, .ref cl2, w5, .ref wo, w7, w8, w9, w10])), (kp, .inr (4, [.ref la1, .ref cl1, .ref ba1])), (la1, .inr (5, [.int (l9 0), .int (l9 1), .int (l9 2), .int (l9 3), .int (l9 4), .int (l9 5), .int (l9 6)])), (cl1, .inr (1, [.int n0, .ref c1, .ref c2, .ref c3, .ref c4, .ref c5, .ref c6, .ref c7])), (c1, .inl (T 0, 24, .inl f1)), (c2, .inl (T 0, 24, .inl f2)), (c3, .inl (T 0, 24, .inl f3)), (c4, .inl (T 0, 24, .inl f4)), (c5, .inl (T 0, 24, .inl f5)), (c6, .inl (T 0, 24, .inl f6)), (c7, .inl (T 0, 24, .inl f7)), (ba1, .inl (T 5, 3, .inr (.inr (.inr (.inr (va_up (va_up (va_up (fun _ => none) 0 (some b0)) 1 (some b1)) 2 (some b2))))))), (b0, .inr (0, [.int (bm 0), .ref a0])), (b1, .inr (0, [.int (bm 1), .ref a1])), (b2, .inr (0, [.int (bm 2), .ref a2])), (a0, .inl (T 0, 12, .inl (bf 0))), (a1, .inl (T 0, 12, .inl (bf 1))), (a2, .inl (T 0, 12, .inl (bf 2))), (nw, .inr (4, [.ref la2, .ref cl2, .ref ba2])), (la2, .inr (5, [.int (k9 0), .int (k9 1), .int (k9 2), .int (k9 3), .int (k9 4), .int (k9 5), .int (k9 6)])), (cl2, .inr (1, [.int k0, .ref d1, .ref d2, .ref d3, .ref d4, .ref d5, .ref d6, .ref d7])), (d1, .inl (T 0, 24, .inl g1)), (d2, .inl (T 0, 24, .inl g2)), (d3, .inl (T 0, 24, .inl g3)), (d4, .inl (T 0, 24, .inl g4)), (d5, .inl (T 0, 24, .inl g5)), (d6, .inl (T 0, 24, .inl g6)), (d7, .inl (T 0, 24, .inl g7)), (ba2, .inl (T 5, 3, .inr (.inr (.inr (.inr (va_up (va_up (va_up (fun _ => none) 0 (some e0)) 1 (some e1)) 2 (some e2))))))), (e0, .inr (0, [.int (bk 0), .ref z0])), (e1, .inr (0, [.int (bk 1), .ref z1])), (e2, .inr (0, [.int (bk 2), .ref z2])), (z0, .inl (T 0, 12, .inl (bg 0))), (z1, .inl (T 0, 12, .inl (bg 1))), (z2, .inl (T 0, 12, .inl (bg 2)))] sz ad sa av ta) (va_Qi (fun (r : Int32) (u : (Nat → Int32) × (Nat → Int32) × (Nat → Int32)) => (okC (va_cpy g1 f1 0 0 24) (va_cpy g3 f3 0 0 24) (va_cpy g4 f4 0 0 24) u.1) ∧ r = k0) (bW D (va_A [(h0, .inr (9, [.ref nw, .ref kp, .int im, w3, .ref cl2, w5, .ref wo, w7, w8, w9, w10])), (kp, .inr (4, [.ref la1, .ref cl1, .ref ba1])), (la1, .inr (5, [.int (l9 0), .int (l9 1), .int (l9 2), .int (l9 3), .int (l9 4), .int (l9 5), .int (l9 6)])), (cl1, .inr (1, [.int n0, .ref c1, .ref c2, .ref c3, .ref c4, .ref c5, .ref c6, .ref c7])), (c1, .inl (T 0, 24, .inl f1)), (c2, .inl (T 0, 24, .inl f2)), (c3, .inl (T 0, 24, .inl f3)), (c4, .inl (T 0, 24, .inl f4)), (c5, .inl (T 0, 24, .inl f5)), (c6, .inl (T 0, 24, .inl f6)), (c7, .inl (T 0, 24, .inl f7)), (ba1, .inl (T 5, 3, .inr (.inr (.inr (.inr (va_up (va_up (va_up (fun _ => none) 0 (some b0)) 1 (some b1)) 2 (some b2))))))), (b0, .inr (0, [.int (bm 0), .ref a0])), (b1, .inr (0, [.int (bm 1), .ref a1])), (b2, .inr (0, [.int (bm 2), .ref a2])), (a0, .inl (T 0, 12, .inl (bf 0))), (a1, .inl (T 0, 12, .inl (bf 1))), (a2, .inl (T 0, 12, .inl (bf 2))), (nw, .inr (4, [.ref la2, .ref cl2, .ref ba2])), (la2, .inr (5, [.int (k9 0), .int (k9 1), .int (k9 2), .int (k9 3), .int (k9 4), .int (k9 5), .int (k9 6)])), (cl2, .inr (1, [.int k0, .ref d1, .ref d2, .ref d3, .ref d4, .ref d5, .ref d6, .ref d7])), (d1, .inl (T 0, 24, .inl g1)), (d2, .inl (T 0, 24, .inl g2)), (d3, .inl (T 0, 24, .inl g3)), (d4, .inl (T 0, 24, .inl g4)), (d5, .inl (T 0, 24, .inl g5)), (d6, .inl (T 0, 24, .inl g6)), (d7, .inl (T 0, 24, .inl g7)), (ba2, .inl (T 5, 3, .inr (.inr (.inr (.inr (va_up (va_up (va_up (fun _ => none) 0 (some e0)) 1 (some e1)) 2 (some e2))))))), (e0, .inr (0, [.int (bk 0), .ref z0])), (e1, .inr (0, [.int (bk 1), .ref z1])), (e2, .inr (0, [.int (bk 2), .ref z2])), (z0, .inl (T 0, 12, .inl (bg 0))), (z1, .inl (T 0, 12, .inl (bg 1))), (z2, .inl (T 0, 12, .inl (bg 2)))] sz) (fun (u : (Nat → Int32) × (Nat → Int32) × (Nat → Int32)) => [(h0, .inr (9, [.ref nw, .ref kp, .int 1, w3, .ref cl2, w5, .ref wo, w7, w8, w9, w10])), (kp, .inr (4, [.ref la1, .ref cl1, .ref ba1])), (la1, .inr (5, [.int (k9 0), .int (k9 1), .int (k9 2), .int (k9 3), .int (k9 4), .int (k9 5), .int (k9 6)])), (cl1, .inr (1, [.int k0, .ref c1, .ref c2, .ref c3, .ref c4, .ref c5, .ref c6, .ref c7])), (c1, .inl (T 0, 24, .inl (va_cpy g1 f1 0 0 24))), (c2, .inl (T 0, 24, .inl (va_cpy g2 f2 0 0 24))), (c3, .inl (T 0, 24, .inl (va_cpy g3 f3 0 0 24))), (c4, .inl (T 0, 24, .inl (va_cpy g4 f4 0 0 24))), (c5, .inl (T 0, 24, .inl u.1)), (c6, .inl (T 0, 24, .inl u.2.1)), (c7, .inl (T 0, 24, .inl u.2.2)), (ba1, .inl (T 5, 3, .inr (.inr (.inr (.inr (va_up (va_up (va_up (fun _ => none) 0 (some b0)) 1 (some b1)) 2 (some b2))))))), (b0, .inr (0, [.int (bk 0), .ref a0])), (b1, .inr (0, [.int (bk 1), .ref a1])), (b2, .inr (0, [.int (bk 2), .ref a2])), (a0, .inl (T 0, 12, .inl (va_cpy (bg 0) (bf 0) 0 0 12))), (a1, .inl (T 0, 12, .inl (va_cpy (bg 1) (bf 1) 0 0 12))), (a2, .inl (T 0, 12, .inl (va_cpy (bg 2) (bf 2) 0 0 12))), (nw, .inr (4, [.ref la2, .ref cl2, .ref ba2])), (la2, .inr (5, [.int (k9 0), .int (k9 1), .int (k9 2), .int (k9 3), .int (k9 4), .int (k9 5), .int (k9 6)])), (cl2, .inr (1, [.int k0, .ref d1, .ref d2, .ref d3, .ref d4, .ref d5, .ref d6, .ref d7])), (d1, .inl (T 0, 24, .inl g1)), (d2, .inl (T 0, 24, .inl g2)), (d3, .inl (T 0, 24, .inl g3)), (d4, .inl (T 0, 24, .inl g4)), (d5, .inl (T 0, 24, .inl g5)), (d6, .inl (T 0, 24, .inl g6)), (d7, .inl (T 0, 24, .inl g7)), (ba2, .inl (T 5, 3, .inr (.inr (.inr (.inr (va_up (va_up (va_up (fun _ => none) 0 (some e0)) 1 (some e1)) 2 (some e2))))))), (e0, .inr (0, [.int (bk 0), .ref z0])), (e1, .inr (0, [.int (bk 1), .ref z1])), (e2, .inr (0, [.int (bk 2), .ref z2])), (z0, .inl (T 0, 12, .inl (bg 0))), (z1, .inl (T 0, 12, .inl (bg 1))), (z2, .inl (T 0, 12, .inl (bg 2)))])) (va_A [(h0, .inr (9, [.ref nw, .ref kp, .int im, w3, .ref cl2, w5, .ref wo, w7, w8, w9, w10])), (kp, .inr (4, [.ref la1, .ref cl1, .ref ba1])), (la1, .inr (5, [.int (l9 0), .int (l9 1), .int (l9 2), .int (l9 3), .int (l9 4), .int (l9 5), .int (l9 6)])), (cl1, .inr (1, [.int n0, .ref c1, .ref c2, .ref c3, .ref c4, .ref c5, .ref c6, .ref c7])), (c1, .inl (T 0, 24, .inl f1)), (c2, .inl (T 0, 24, .inl f2)), (c3, .inl (T 0, 24, .inl f3)), (c4, .inl (T 0, 24, .inl f4)), (c5, .inl (T 0, 24, .inl f5)), (c6, .inl (T 0, 24, .inl f6)), (c7, .inl (T 0, 24, .inl f7)), (ba1, .inl (T 5, 3, .inr (.inr (.inr (.inr (va_up (va_up (va_up (fun _ => none) 0 (some b0)) 1 (some b1)) 2 (some b2))))))), (b0, .inr (0, [.int (bm 0), .ref a0])), (b1, .inr (0, [.int (bm 1), .ref a1])), (b2, .inr (0, [.int (bm 2), .ref a2])), (a0, .inl (T 0, 12, .inl (bf 0))), (a1, .inl (T 0, 12, .inl (bf 1))), (a2, .inl (T 0, 12, .inl (bf 2))), (nw, .inr (4, [.ref la2, .ref cl2, .ref ba2])), (la2, .inr (5, [.int (k9 0), .int (k9 1), .int (k9 2), .int (k9 3), .int (k9 4), .int (k9 5), .int (k9 6)])), (cl2, .inr (1, [.int k0, .ref d1, .ref d2, .ref d3, .ref d4, .ref d5, .ref d6, .ref d7])), (d1, .inl (T 0, 24, .inl g1)), (d2, .inl (T 0, 24, .inl g2)), (d3, .inl (T 0, 24, .inl g3)), (d4, .inl (T 0, 24, .inl g4)), (d5, .inl (T 0, 24, .inl g5)), (d6, .inl (T 0, 24, .inl g6)), (d7, .inl (T 0, 24, .inl g7)), (ba2, .inl (T 5, 3, .inr (.inr (.inr (.inr (va_up (va_up (va_up (fun _ => none) 0 (some e0)) 1 (some e1)) 2 (some e2))))))), (e0, .inr (0, [.int (bk 0), .ref z0])), (e1, .inr (0, [.int (bk 1), .ref z1])), (e2, .inr (0, [.int (bk 2), .ref z2])), (z0, .inl (T 0, 12, .inl (bg 0))), (z1, .inl (T 0, 12, .inl (bg 1))), (z2, .inl (T 0, 12, .inl (bg 2)))] sz)) 0 0 (va_A [(h0, .inr (9, [.ref nw, .ref kp, .int im, w3, .ref cl2, w5, .ref wo, w7, w8, w9, w10])), (kp, .inr (4, [.ref la1, .ref cl1, .ref ba1])), (la1, .inr (5, [.int (l9 0), .int (l9 1), .int (l9 2), .int (l9 3), .int (l9 4), .int (l9 5), .int (l9 6)])), (cl1, .inr (1, [.int n0, .ref c1, .ref c2, .ref c3, .ref c4, .ref c5, .ref c6, .ref c7])), (c1, .inl (T 0, 24, .inl f1)), (c2, .inl (T 0, 24, .inl f2)), (c3, .inl (T 0, 24, .inl f3)), (c4, .inl (T 0, 24, .inl f4)), (c5, .inl (T 0, 24, .inl f5)), (c6, .inl (T 0, 24, .inl f6)), (c7, .inl (T 0, 24, .inl f7)), (ba1, .inl (T 5, 3, .inr (.inr (.inr (.inr (va_up (va_up (va_up (fun _ => none) 0 (some b0)) 1 (some b1)) 2 (some b2))))))), (b0, .inr (0, [.int (bm 0), .ref a0])), (b1, .inr (0, [.int (bm 1), .ref a1])), (b2, .inr (0, [.int (bm 2), .ref a2])), (a0, .inl (T 0, 12, .inl (bf 0))), (a1, .inl (T 0, 12, .inl (bf 1))), (a2, .inl (T 0, 12, .inl (bf 2))), (nw, .inr (4, [.ref la2, .ref cl2, .ref ba2])), (la2, .inr (5, [.int (k9 0), .int (k9 1), .int (k9 2), .int (k9 3), .int (k9 4), .int (k9 5), .int (k9 6)])), (cl2, .inr (1, [.int k0, .ref d1, .ref d2, .ref d3, .ref d4, .ref d5, .ref d6, .ref d7])), (d1, .inl (T 0, 24, .inl g1)), (d2, .inl (T 0, 24, .inl g2)), (d3, .inl (T 0, 24, .inl g3)), (d4, .inl (T 0, 24, .inl g4)), (d5, .inl (T 0, 24, .inl g5)), (d6, .inl (T 0, 24, .inl g6)), (d7, .inl (T 0, 24, .inl g7)), (ba2, .inl (T 5, 3, .inr (.inr (.inr (.inr (va_up (va_up (va_up (fun _ => none) 0 (some e0)) 1 (some e1)) 2 (some e2))))))), (e0, .inr (0, [.int (bk 0), .ref z0])), (e1, .inr (0, [.int (bk 1), .ref z1])), (e2, .inr (0, [.int (bk 2), .ref z2])), (z0, .inl (T 0, 12, .inl (bg 0))), (z1, .inl (T 0, 12, .inl (bg 1))), (z2, .inl (T 0, 12, .inl (bg 2)))] sz) := by
  refine Met.ofW (cc := cX12_image) (maxL := 1) (ret := (some .int)) (by decide +kernel) rfl ?_
  intro p e s m args below meth c s₁ B hml hv
  obtain ⟨rfl, hsz, hP, hE, hD0, hV⟩ := hv
  have hx := B.exec
  have hb := B.bytes
  have hr := B.returns
  have hts := atoms_spec (ws := wsX12_image) B.pre
  have hown : s.vm.findClass RX12 = some m.cls := findClass_of_methodNamed B.named
  have hlocks := B.notSynchronized
  subst hsz
  have hD := hD0.self (sz := s.heap.size)
  generalize hAe : va_A [(h0, .inr (9, [.ref nw, .ref kp, .int im, w3, .ref cl2, w5, .ref wo, w7, w8, w9, w10])), (kp, .inr (4, [.ref la1, .ref cl1, .ref ba1])), (la1, .inr (5, [.int (l9 0), .int (l9 1), .int (l9 2), .int (l9 3), .int (l9 4), .int (l9 5), .int (l9 6)])), (cl1, .inr (1, [.int n0, .ref c1, .ref c2, .ref c3, .ref c4, .ref c5, .ref c6, .ref c7])), (c1, .inl (T 0, 24, .inl f1)), (c2, .inl (T 0, 24, .inl f2)), (c3, .inl (T 0, 24, .inl f3)), (c4, .inl (T 0, 24, .inl f4)), (c5, .inl (T 0, 24, .inl f5)), (c6, .inl (T 0, 24, .inl f6)), (c7, .inl (T 0, 24, .inl f7)), (ba1, .inl (T 5, 3, .inr (.inr (.inr (.inr (va_up (va_up (va_up (fun _ => none) 0 (some b0)) 1 (some b1)) 2 (some b2))))))), (b0, .inr (0, [.int (bm 0), .ref a0])), (b1, .inr (0, [.int (bm 1), .ref a1])), (b2, .inr (0, [.int (bm 2), .ref a2])), (a0, .inl (T 0, 12, .inl (bf 0))), (a1, .inl (T 0, 12, .inl (bf 1))), (a2, .inl (T 0, 12, .inl (bf 2))), (nw, .inr (4, [.ref la2, .ref cl2, .ref ba2])), (la2, .inr (5, [.int (k9 0), .int (k9 1), .int (k9 2), .int (k9 3), .int (k9 4), .int (k9 5), .int (k9 6)])), (cl2, .inr (1, [.int k0, .ref d1, .ref d2, .ref d3, .ref d4, .ref d5, .ref d6, .ref d7])), (d1, .inl (T 0, 24, .inl g1)), (d2, .inl (T 0, 24, .inl g2)), (d3, .inl (T 0, 24, .inl g3)), (d4, .inl (T 0, 24, .inl g4)), (d5, .inl (T 0, 24, .inl g5)), (d6, .inl (T 0, 24, .inl g6)), (d7, .inl (T 0, 24, .inl g7)), (ba2, .inl (T 5, 3, .inr (.inr (.inr (.inr (va_up (va_up (va_up (fun _ => none) 0 (some e0)) 1 (some e1)) 2 (some e2))))))), (e0, .inr (0, [.int (bk 0), .ref z0])), (e1, .inr (0, [.int (bk 1), .ref z1])), (e2, .inr (0, [.int (bk 2), .ref z2])), (z0, .inl (T 0, 12, .inl (bg 0))), (z1, .inl (T 0, 12, .inl (bg 1))), (z2, .inl (T 0, 12, .inl (bg 2)))] s.heap.size = A at hD hV ⊢
  have hA : ∀ q : Nat, s.heap.size ≤ q → A q := fun q h => by rw [← hAe]; exact Or.inr h
  have hS : va_S A s.heap s.heap [] := va_S.rf
  have hP : va_P D vwCl [(h0, .inr (9, [.ref nw, .ref kp, .int im, w3, .ref cl2, w5, .ref wo, w7, w8, w9, w10])), (kp, .inr (4, [.ref la1, .ref cl1, .ref ba1])), (la1, .inr (5, [.int (l9 0), .int (l9 1), .int (l9 2), .int (l9 3), .int (l9 4), .int (l9 5), .int (l9 6)])), (cl1, .inr (1, [.int n0, .ref c1, .ref c2, .ref c3, .ref c4, .ref c5, .ref c6, .ref c7])), (c1, .inl (T 0, 24, .inl f1)), (c2, .inl (T 0, 24, .inl f2)), (c3, .inl (T 0, 24, .inl f3)), (c4, .inl (T 0, 24, .inl f4)), (c5, .inl (T 0, 24, .inl f5)), (c6, .inl (T 0, 24, .inl f6)), (c7, .inl (T 0, 24, .inl f7)), (ba1, .inl (T 5, 3, .inr (.inr (.inr (.inr (va_up (va_up (va_up (fun _ => none) 0 (some b0)) 1 (some b1)) 2 (some b2))))))), (b0, .inr (0, [.int (bm 0), .ref a0])), (b1, .inr (0, [.int (bm 1), .ref a1])), (b2, .inr (0, [.int (bm 2), .ref a2])), (a0, .inl (T 0, 12, .inl (bf 0))), (a1, .inl (T 0, 12, .inl (bf 1))), (a2, .inl (T 0, 12, .inl (bf 2))), (nw, .inr (4, [.ref la2, .ref cl2, .ref ba2])), (la2, .inr (5, [.int (k9 0), .int (k9 1), .int (k9 2), .int (k9 3), .int (k9 4), .int (k9 5), .int (k9 6)])), (cl2, .inr (1, [.int k0, .ref d1, .ref d2, .ref d3, .ref d4, .ref d5, .ref d6, .ref d7])), (d1, .inl (T 0, 24, .inl g1)), (d2, .inl (T 0, 24, .inl g2)), (d3, .inl (T 0, 24, .inl g3)), (d4, .inl (T 0, 24, .inl g4)), (d5, .inl (T 0, 24, .inl g5)), (d6, .inl (T 0, 24, .inl g6)), (d7, .inl (T 0, 24, .inl g7)), (ba2, .inl (T 5, 3, .inr (.inr (.inr (.inr (va_up (va_up (va_up (fun _ => none) 0 (some e0)) 1 (some e1)) 2 (some e2))))))), (e0, .inr (0, [.int (bk 0), .ref z0])), (e1, .inr (0, [.int (bk 1), .ref z1])), (e2, .inr (0, [.int (bk 2), .ref z2])), (z0, .inl (T 0, 12, .inl (bg 0))), (z1, .inl (T 0, 12, .inl (bg 1))), (z2, .inl (T 0, 12, .inl (bg 2)))] s.heap := hP
  have hl := lv_entry ([.ref h0]) (n := 1) (Nat.le_of_ble_eq_true rfl)
  rw [lg_entry_eq]
  generalize (lg_sl ([.ref h0]) ++ List.replicate (1 - (lg_sl ([.ref h0])).length) Slot.unset).toArray = ls at hl ⊢
  have hl : lv_has ls 1 [(0, .ref h0)] := hl
  clear hD0
  refine lv_aload_n hx hb dX12_image_0 rfl (lv_at hl 0 rfl) ?_
  refine va_get (D := D) (ci := 9) (v := .ref kp) (C := RX12) (T := TX12) (N := 11) hx hb hts in_X12_image_X12 hown hE.1 hP 0 rfl rfl 1 (by decide +kernel) (hts (.fieldLink RX12 16 "ClauseBook" "kept" "LClauseBook$Kept;") (List.mem_of_getElem? (i := 1) rfl)) (fun _ h9 => h9) rfl dX12_image_1 ?_
  refine lv_aload_n hx hb dX12_image_4 rfl (lv_at hl 0 rfl) ?_
  refine va_get (D := D) (ci := 9) (v := .ref nw) (C := RX12) (T := TX12) (N := 11) hx hb hts in_X12_image_X12 hown hE.1 hP 0 rfl rfl 0 (by decide +kernel) (hts (.fieldLink RX12 10 "ClauseBook" "now" "LClauseBook$Kept;") (List.mem_of_getElem? (i := 2) rfl)) (fun _ h9 => h9) rfl dX12_image_5 ?_
  have hFc := va_free (wc := [(kp, .inr (4, [.ref la1, .ref cl1, .ref ba1])), (la1, .inr (5, [.int (l9 0), .int (l9 1), .int (l9 2), .int (l9 3), .int (l9 4), .int (l9 5), .int (l9 6)])), (cl1, .inr (1, [.int n0, .ref c1, .ref c2, .ref c3, .ref c4, .ref c5, .ref c6, .ref c7])), (c1, .inl (T 0, 24, .inl f1)), (c2, .inl (T 0, 24, .inl f2)), (c3, .inl (T 0, 24, .inl f3)), (c4, .inl (T 0, 24, .inl f4)), (c5, .inl (T 0, 24, .inl f5)), (c6, .inl (T 0, 24, .inl f6)), (c7, .inl (T 0, 24, .inl f7)), (ba1, .inl (T 5, 3, .inr (.inr (.inr (.inr (va_up (va_up (va_up (fun _ => none) 0 (some b0)) 1 (some b1)) 2 (some b2))))))), (b0, .inr (0, [.int (bm 0), .ref a0])), (b1, .inr (0, [.int (bm 1), .ref a1])), (b2, .inr (0, [.int (bm 2), .ref a2])), (a0, .inl (T 0, 12, .inl (bf 0))), (a1, .inl (T 0, 12, .inl (bf 1))), (a2, .inl (T 0, 12, .inl (bf 2))), (nw, .inr (4, [.ref la2, .ref cl2, .ref ba2])), (la2, .inr (5, [.int (k9 0), .int (k9 1), .int (k9 2), .int (k9 3), .int (k9 4), .int (k9 5), .int (k9 6)])), (cl2, .inr (1, [.int k0, .ref d1, .ref d2, .ref d3, .ref d4, .ref d5, .ref d6, .ref d7])), (d1, .inl (T 0, 24, .inl g1)), (d2, .inl (T 0, 24, .inl g2)), (d3, .inl (T 0, 24, .inl g3)), (d4, .inl (T 0, 24, .inl g4)), (d5, .inl (T 0, 24, .inl g5)), (d6, .inl (T 0, 24, .inl g6)), (d7, .inl (T 0, 24, .inl g7)), (ba2, .inl (T 5, 3, .inr (.inr (.inr (.inr (va_up (va_up (va_up (fun _ => none) 0 (some e0)) 1 (some e1)) 2 (some e2))))))), (e0, .inr (0, [.int (bk 0), .ref z0])), (e1, .inr (0, [.int (bk 1), .ref z1])), (e2, .inr (0, [.int (bk 2), .ref z2])), (z0, .inl (T 0, 12, .inl (bg 0))), (z1, .inl (T 0, 12, .inl (bg 1))), (z2, .inl (T 0, 12, .inl (bg 2)))]) hD hS hA [1, 2, 3, 4, 5, 6, 7, 8, 9, 10, 11, 12, 13, 14, 15, 16, 17, 18, 19, 20, 21, 22, 23, 24, 25, 26, 27, 28, 29, 30, 31, 32, 33, 34] rfl
  refine va_callv (va_runV (As := [.ref nw]) (rest := []) ⟨hx, hb, hml, hown, hts⟩ (c_X6_become l D T ad sa av ta _ kp nw la1 cl1 ba1 la2 cl2 ba2 c1 c2 c3 c4 c5 c6 c7 d1 d2 d3 d4 d5 d6 d7 b0 b1 b2 a0 a1 a2 e0 e1 e2 z0 z1 z2 l9 k9 n0 k0 f1 f2 f3 f4 f5 f6 f7 g1 g2 g3 g4 g5 g6 g7 bm bk bf bg (by omega) hok hokg) (cwV 1 hts gX12_image_X6_become rfl rfl rfl hv_X6_become ⟨Nat.le_of_ble_eq_true rfl, Nat.le_of_ble_eq_true rfl⟩) (pWk_V (q := (RX6, TX6, 3)) (ci := 4) (q0 := 1) hP hE hD hV hS hFc rfl rfl [1, 2, 3, 4, 5, 6, 7, 8, 9, 10, 11, 12, 13, 14, 15, 16, 17, 18, 19, 20, 21, 22, 23, 24, 25, 26, 27, 28, 29, 30, 31, 32, 33, 34] (by decide +kernel) rfl rfl) rfl rfl hl.1 rfl (lv_room (Nat.le_of_ble_eq_true rfl)) dX12_image_8 ⟨Nat.le_of_ble_eq_true rfl, Nat.le_of_ble_eq_true rfl⟩) hS (fun q _ h => hFc q h) hFc (fun u_2 t H1 locs ht hvm hr_1 hB hz1 hk1 hS => ?_)
  obtain ⟨f_3, f_4, f_5⟩ := u_2
  have hokf_3 : okC (va_cpy g1 f1 0 0 24) (va_cpy g3 f3 0 0 24) (va_cpy g4 f4 0 0 24) f_3 := hr_1.1
  have hmbf_3 : ∀ j : Nat, (j : Int) < (k0 : Int32).toInt → mesP (va_cpy g1 f1 0 0 24) (va_cpy g2 f2 0 0 24) (va_cpy g3 f3 0 0 24) (va_cpy g4 f4 0 0 24) f_3 f_4 f_5 j := hr_1.2
  obtain ⟨hP1, hD1⟩ := hB
  rw [ht] at hP1
  obtain ⟨hP, hD⟩ := va_repl [(h0, .inr (9, [.ref nw, .ref kp, .int im, w3, .ref cl2, w5, .ref wo, w7, w8, w9, w10])), (kp, .inr (4, [.ref la1, .ref cl1, .ref ba1])), (la1, .inr (5, [.int (k9 0), .int (k9 1), .int (k9 2), .int (k9 3), .int (k9 4), .int (k9 5), .int (k9 6)])), (cl1, .inr (1, [.int k0, .ref c1, .ref c2, .ref c3, .ref c4, .ref c5, .ref c6, .ref c7])), (c1, .inl (T 0, 24, .inl (va_cpy g1 f1 0 0 24))), (c2, .inl (T 0, 24, .inl (va_cpy g2 f2 0 0 24))), (c3, .inl (T 0, 24, .inl (va_cpy g3 f3 0 0 24))), (c4, .inl (T 0, 24, .inl (va_cpy g4 f4 0 0 24))), (c5, .inl (T 0, 24, .inl f_3)), (c6, .inl (T 0, 24, .inl f_4)), (c7, .inl (T 0, 24, .inl f_5)), (ba1, .inl (T 5, 3, .inr (.inr (.inr (.inr (va_up (va_up (va_up (fun _ => none) 0 (some b0)) 1 (some b1)) 2 (some b2))))))), (b0, .inr (0, [.int (bk 0), .ref a0])), (b1, .inr (0, [.int (bk 1), .ref a1])), (b2, .inr (0, [.int (bk 2), .ref a2])), (a0, .inl (T 0, 12, .inl (va_cpy (bg 0) (bf 0) 0 0 12))), (a1, .inl (T 0, 12, .inl (va_cpy (bg 1) (bf 1) 0 0 12))), (a2, .inl (T 0, 12, .inl (va_cpy (bg 2) (bf 2) 0 0 12))), (nw, .inr (4, [.ref la2, .ref cl2, .ref ba2])), (la2, .inr (5, [.int (k9 0), .int (k9 1), .int (k9 2), .int (k9 3), .int (k9 4), .int (k9 5), .int (k9 6)])), (cl2, .inr (1, [.int k0, .ref d1, .ref d2, .ref d3, .ref d4, .ref d5, .ref d6, .ref d7])), (d1, .inl (T 0, 24, .inl g1)), (d2, .inl (T 0, 24, .inl g2)), (d3, .inl (T 0, 24, .inl g3)), (d4, .inl (T 0, 24, .inl g4)), (d5, .inl (T 0, 24, .inl g5)), (d6, .inl (T 0, 24, .inl g6)), (d7, .inl (T 0, 24, .inl g7)), (ba2, .inl (T 5, 3, .inr (.inr (.inr (.inr (va_up (va_up (va_up (fun _ => none) 0 (some e0)) 1 (some e1)) 2 (some e2))))))), (e0, .inr (0, [.int (bk 0), .ref z0])), (e1, .inr (0, [.int (bk 1), .ref z1])), (e2, .inr (0, [.int (bk 2), .ref z2])), (z0, .inl (T 0, 12, .inl (bg 0))), (z1, .inl (T 0, 12, .inl (bg 1))), (z2, .inl (T 0, 12, .inl (bg 2)))] hP hD [1, 2, 3, 4, 5, 6, 7, 8, 9, 10, 11, 12, 13, 14, 15, 16, 17, 18, 19, 20, 21, 22, 23, 24, 25, 26, 27, 28, 29, 30, 31, 32, 33, 34] [1, 2, 3, 4, 5, 6, 7, 8, 9, 10, 11, 12, 13, 14, 15, 16, 17, 18, 19, 20, 21, 22, 23, 24, 25, 26, 27, 28, 29, 30, 31, 32, 33, 34] rfl (by decide +kernel) rfl rfl rfl hk1 hP1
  clear hP1 hD1 hFc
  generalize H1 = H at hP hS ⊢
  refine lv_aload_n hx hb dX12_image_11 rfl (lv_at hl 0 rfl) ?_
  refine lv_iconst (v := 1) hx hb dX12_image_12 (by decide +kernel) ?_
  refine va_put (D := D) (ci := 9) (v := .int 1) (ty := .boolean) (C := RX12) (T := TX12) (N := 11) hx hb hts in_X12_image_X12 tyX12 tyX12_ok nmX12 hown hE.1 hP hD hS 0 rfl rfl 2 (by decide +kernel) (hts (.fieldLink RX12 19 "ClauseBook" "imaged" "Z") (List.mem_of_getElem? (i := 3) rfl)) (fun _ h9 => h9) rfl (by decide +kernel) rfl rfl (Nat.le_of_ble_eq_true rfl) dX12_image_13 (fun H locs hP hD hS => ?_)
  obtain ⟨hP, hD⟩ := wPD [(h0, .inr (9, [.ref nw, .ref kp, .int 1, w3, .ref cl2, w5, .ref wo, w7, w8, w9, w10])), (kp, .inr (4, [.ref la1, .ref cl1, .ref ba1])), (la1, .inr (5, [.int (k9 0), .int (k9 1), .int (k9 2), .int (k9 3), .int (k9 4), .int (k9 5), .int (k9 6)])), (cl1, .inr (1, [.int k0, .ref c1, .ref c2, .ref c3, .ref c4, .ref c5, .ref c6, .ref c7])), (c1, .inl (T 0, 24, .inl (va_cpy g1 f1 0 0 24))), (c2, .inl (T 0, 24, .inl (va_cpy g2 f2 0 0 24))), (c3, .inl (T 0, 24, .inl (va_cpy g3 f3 0 0 24))), (c4, .inl (T 0, 24, .inl (va_cpy g4 f4 0 0 24))), (c5, .inl (T 0, 24, .inl f_3)), (c6, .inl (T 0, 24, .inl f_4)), (c7, .inl (T 0, 24, .inl f_5)), (ba1, .inl (T 5, 3, .inr (.inr (.inr (.inr (va_up (va_up (va_up (fun _ => none) 0 (some b0)) 1 (some b1)) 2 (some b2))))))), (b0, .inr (0, [.int (bk 0), .ref a0])), (b1, .inr (0, [.int (bk 1), .ref a1])), (b2, .inr (0, [.int (bk 2), .ref a2])), (a0, .inl (T 0, 12, .inl (va_cpy (bg 0) (bf 0) 0 0 12))), (a1, .inl (T 0, 12, .inl (va_cpy (bg 1) (bf 1) 0 0 12))), (a2, .inl (T 0, 12, .inl (va_cpy (bg 2) (bf 2) 0 0 12))), (nw, .inr (4, [.ref la2, .ref cl2, .ref ba2])), (la2, .inr (5, [.int (k9 0), .int (k9 1), .int (k9 2), .int (k9 3), .int (k9 4), .int (k9 5), .int (k9 6)])), (cl2, .inr (1, [.int k0, .ref d1, .ref d2, .ref d3, .ref d4, .ref d5, .ref d6, .ref d7])), (d1, .inl (T 0, 24, .inl g1)), (d2, .inl (T 0, 24, .inl g2)), (d3, .inl (T 0, 24, .inl g3)), (d4, .inl (T 0, 24, .inl g4)), (d5, .inl (T 0, 24, .inl g5)), (d6, .inl (T 0, 24, .inl g6)), (d7, .inl (T 0, 24, .inl g7)), (ba2, .inl (T 5, 3, .inr (.inr (.inr (.inr (va_up (va_up (va_up (fun _ => none) 0 (some e0)) 1 (some e1)) 2 (some e2))))))), (e0, .inr (0, [.int (bk 0), .ref z0])), (e1, .inr (0, [.int (bk 1), .ref z1])), (e2, .inr (0, [.int (bk 2), .ref z2])), (z0, .inl (T 0, 12, .inl (bg 0))), (z1, .inl (T 0, 12, .inl (bg 1))), (z2, .inl (T 0, 12, .inl (bg 2)))] hP hD rfl
  refine lv_aload_n hx hb dX12_image_16 rfl (lv_at hl 0 rfl) ?_
  refine va_get (D := D) (ci := 9) (v := .ref cl2) (C := RX12) (T := TX12) (N := 11) hx hb hts in_X12_image_X12 hown hE.1 hP 0 rfl rfl 4 (by decide +kernel) (hts (.fieldLink RX12 32 "ClauseBook" "clauses" "LClauseBook$Clauses;") (List.mem_of_getElem? (i := 4) rfl)) (fun _ h9 => h9) rfl dX12_image_17 ?_
  refine va_get (D := D) (ci := 1) (v := .int k0) (C := RX2) (T := TX2) (N := 8) hx hb hts in_X12_image_X2 hown hE.1 hP 20 rfl rfl 0 (by decide +kernel) (hts (.fieldLink RX12 138 "ClauseBook$Clauses" "size" "I") (List.mem_of_getElem? (i := 5) rfl)) (fun _ h9 => h9) rfl dX12_image_20 ?_
  exact W.iret hx hb hr (fun t ht hW => ⟨⟨_, (f_3, f_4, f_5), rfl, ⟨hokf_3, rfl⟩, by rw [ht]; exact hP.sub [0, 1, 2, 3, 4, 5, 6, 7, 8, 9, 10, 11, 12, 13, 14, 15, 16, 17, 18, 19, 20, 21, 22, 23, 24, 25, 26, 27, 28, 29, 30, 31, 32, 33, 34] rfl, hD.sub [0, 1, 2, 3, 4, 5, 6, 7, 8, 9, 10, 11, 12, 13, 14, 15, 16, 17, 18, 19, 20, 21, 22, 23, 24, 25, 26, 27, 28, 29, 30, 31, 32, 33, 34] (by decide +kernel) rfl⟩, hS.F ht⟩) hS.2.2 dX12_image_23
theorem dX12_back_0 : decode cX12_back 0 = .ok (.aload_n 0, 1) := by decide +kernel
theorem dX12_back_1 : decode cX12_back 1 = .ok (.getfield 19, 3) := by decide +kernel
theorem dX12_back_10 : decode cX12_back 10 = .ok (.aload_n 0, 1) := by decide +kernel
theorem dX12_back_11 : decode cX12_back 11 = .ok (.getfield 10, 3) := by decide +kernel
theorem dX12_back_14 : decode cX12_back 14 = .ok (.aload_n 0, 1) := by decide +kernel
theorem dX12_back_15 : decode cX12_back 15 = .ok (.getfield 16, 3) := by decide +kernel
theorem dX12_back_18 : decode cX12_back 18 = .ok (.invokevirtual 377, 3) := by decide +kernel
theorem dX12_back_21 : decode cX12_back 21 = .ok (.aload_n 0, 1) := by decide +kernel
theorem dX12_back_22 : decode cX12_back 22 = .ok (.getfield 43, 3) := by decide +kernel
theorem dX12_back_25 : decode cX12_back 25 = .ok (.invokevirtual 93, 3) := by decide +kernel
theorem dX12_back_28 : decode cX12_back 28 = .ok (.aload_n 0, 1) := by decide +kernel
theorem dX12_back_29 : decode cX12_back 29 = .ok (.getfield 32, 3) := by decide +kernel
theorem dX12_back_32 : decode cX12_back 32 = .ok (.getfield 138, 3) := by decide +kernel
theorem dX12_back_35 : decode cX12_back 35 = .ok (.ireturn, 1) := by decide +kernel
theorem dX12_back_4 : decode cX12_back 4 = .ok (.ifCond .ne 6, 3) := by decide +kernel
theorem dX12_back_7 : decode cX12_back 7 = .ok (.bipush (-3), 2) := by decide +kernel
theorem dX12_back_9 : decode cX12_back 9 = .ok (.ireturn, 1) := by decide +kernel
set_option maxRecDepth 20000 in
theorem ggX12_back_X11_forget : GoodIn wsX12_back wsX11_forget := goodIn_r _ [73, 74, 106, 107, 108, 109, 110, 111] rfl (by decide +kernel)
set_option maxRecDepth 20000 in
theorem ggX12_back_X6_become : GoodIn wsX12_back wsX6_become := goodIn_r _ [11, 12, 13, 14, 15, 16, 17, 18, 19, 20, 21, 22, 23, 24, 25, 26, 27, 28, 29, 30, 31, 32, 33, 34, 35, 36, 37, 38, 39, 40, 41, 42, 43, 44, 45, 46, 47, 48, 49, 50, 51, 52, 53, 54, 55, 56, 57, 58, 59, 60, 61, 62, 63, 64, 65, 66, 67, 68, 94, 95, 96, 97, 98, 99, 100, 101, 102, 103, 86, 87, 88, 89, 90, 91, 92, 93, 104, 105] rfl (by decide +kernel)
set_option maxRecDepth 20000 in
theorem gX12_back_X11_forget : GoodIn wsX12_back (wsV RX12 93 RX11 yX11_forget wsX11_forget) := goodIn_app (goodIn_r _ [69, 70, 71, 72] rfl (by decide +kernel)) ggX12_back_X11_forget
set_option maxRecDepth 20000 in
theorem gX12_back_X6_become : GoodIn wsX12_back (wsV RX12 377 RX6 yX6_become wsX6_become) := goodIn_app (goodIn_r _ [7, 8, 9, 10] rfl (by decide +kernel)) ggX12_back_X6_become
set_option maxRecDepth 20000 in
theorem in_X12_back_X12 : ∀ w ∈ wsX120, w ∈ wsX12_back := sub_r [75, 76, 77, 78, 79, 80, 81, 82, 83, 84, 85] rfl
set_option maxRecDepth 20000 in
theorem in_X12_back_X2 : ∀ w ∈ wsX20, w ∈ wsX12_back := sub_r [86, 87, 88, 89, 90, 91, 92, 93] rfl
set_option maxHeartbeats 4000000 in
set_option maxRecDepth 100000 in
theorem c_X12_back (l : Launch) (D : va_G) (T : Nat → ClassId) (ad sa av : Nat → Nat) (ta : Nat) (sz : Nat) (h0 : Nat) (nw : Nat) (kp : Nat) (wo : Nat) (im : Int32) (w3 : Value) (w5 : Value) (w7 : Value) (w8 : Value) (w9 : Value) (w10 : Value) (la1 : Nat) (cl1 : Nat) (ba1 : Nat) (la2 : Nat) (cl2 : Nat) (ba2 : Nat) (c1 : Nat) (c2 : Nat) (c3 : Nat) (c4 : Nat) (c5 : Nat) (c6 : Nat) (c7 : Nat) (d1 : Nat) (d2 : Nat) (d3 : Nat) (d4 : Nat) (d5 : Nat) (d6 : Nat) (d7 : Nat) (b0 : Nat) (b1 : Nat) (b2 : Nat) (a0 : Nat) (a1 : Nat) (a2 : Nat) (e0 : Nat) (e1 : Nat) (e2 : Nat) (z0 : Nat) (z1 : Nat) (z2 : Nat) (l9 : Nat → Int32) (k9 : Nat → Int32) (n0 : Int32) (k0 : Int32) (f1 : Nat → Int32) (f2 : Nat → Int32) (f3 : Nat → Int32) (f4 : Nat → Int32) (f5 : Nat → Int32) (f6 : Nat → Int32) (f7 : Nat → Int32) (g1 : Nat → Int32) (g2 : Nat → Int32) (g3 : Nat → Int32) (g4 : Nat → Int32) (g5 : Nat → Int32) (g6 : Nat → Int32) (g7 : Nat → Int32) (bm : Nat → Int32) (bk : Nat → Int32) (bf : Nat → Nat → Int32) (bg : Nat → Nat → Int32) (v0 : Value) (v1 : Value) (v2 : Value) (v3 : Value) (v4 : Value) (n : Int32) (hk0 : 0 ≤ n0.toInt ∧ n0.toInt ≤ 24) (hok : okC f1 f3 f4 f5) (hokg : okC g1 g3 g4 g5) (hme : ∀ j : Nat, (j : Int) < k0.toInt → mesP g1 g2 g3 g4 g5 g6 g7 j) : Met l yX12_back wsX12_back ({ frames := 4, cells := 0, slots := 0, locals := 124 }) (pWk [.ref h0] D T [(h0, .inr (9, [.ref nw, .ref kp, .int im, w3, .ref cl2, w5, .ref wo, w7, w8, w9, w10])), (kp, .inr (4, [.ref la1, .ref cl1, .ref ba1])), (la1, .inr (5, [.int (l9 0), .int (l9 1), .int (l9 2), .int (l9 3), .int (l9 4), .int (l9 5), .int (l9 6)])), (cl1, .inr (1, [.int n0, .ref c1, .ref c2, .ref c3, .ref c4, .ref c5, .ref c6, .ref c7])), (c1, .inl (T 0, 24, .inl f1)), (c2, .inl (T 0, 24, .inl f2)), (c3, .inl (T 0, 24, .inl f3)), (c4, .inl (T 0, 24, .inl f4)), (c5, .inl (T 0, 24, .inl f5)), (c6, .inl (T 0, 24, .inl f6)), (c7, .inl (T 0, 24, .inl f7)), (ba1, .inl (T 5, 3, .inr (.inr (.inr (.inr (va_up (va_up (va_up (fun _ => none) 0 (some b0)) 1 (some b1)) 2 (some b2))))))), (b0, .inr (0, [.int (bm 0), .ref a0])), (b1, .inr (0, [.int (bm 1), .ref a1])), (b2, .inr (0, [.int (bm 2), .ref a2])), (a0, .inl (T 0, 12, .inl (bf 0))), (a1, .inl (T 0, 12, .inl (bf 1))), (a2, .inl (T 0, 12, .inl (bf 2))), (nw, .inr (4, [.ref la2, .ref cl2, .ref ba2])), (la2, .inr (5, [.int (k9 0), .int (k9 1), .int (k9 2), .int (k9 3), .int (k9 4), .int (k9 5), .int (k9 6)])), (cl2, .inr (1, [.int k0, .ref d1, .ref d2, .ref d3, .ref d4, .ref d5, .ref d6, .ref d7])), (d1, .inl (T 0, 24, .inl g1)), (d2, .inl (T 0, 24, .inl g2)), (d3, .inl (T 0, 24, .inl g3)), (d4, .inl (T 0, 24, .inl g4)), (d5, .inl (T 0, 24, .inl g5)), (d6, .inl (T 0, 24, .inl g6)), (d7, .inl (T 0, 24, .inl g7)), (ba2, .inl (T 5, 3, .inr (.inr (.inr (.inr (va_up (va_up (va_up (fun _ => none) 0 (some e0)) 1 (some e1)) 2 (some e2))))))), (e0, .inr (0, [.int (bk 0), .ref z0])), (e1, .inr (0, [.int (bk 1), .ref z1])), (e2, .inr (0, [.int (bk 2), .ref z2])), (z0, .inl (T 0, 12, .inl (bg 0))), (z1, .inl (T 0, 12, .inl (bg 1))), (z2, .inl (T 0, 12, .inl (bg 2))), (wo, .inr (8, [v0, v1, v2, v3, v4, .int n]))] sz ad sa av ta) (va_Qi (fun (r : Int32) (u : (Nat → Int32) × Int32 × (Nat → Nat → Int32) × (Nat → Int32) × (Nat → Nat → Int32) × Int32) => ((im = 0 ∧ (∀ k : Nat, k < 7 → u.1 k = k9 k) ∧ u.2.1 = k0 ∧ (∀ k : Nat, k < 3 → u.2.2.2.1 k = bk k) ∧ r.toInt = -3 ∧ (u.2.2.1 1 = g1 ∧ u.2.2.1 2 = g2 ∧ u.2.2.1 3 = g3 ∧ u.2.2.1 4 = g4) ∧ ∀ k : Nat, k < 3 → u.2.2.2.2.1 k = bg k) ∨ (¬ im = 0 ∧ (∀ k : Nat, k < 7 → u.1 k = l9 k) ∧ u.2.1 = n0 ∧ (∀ k : Nat, k < 3 → u.2.2.2.1 k = bm k) ∧ r = n0 ∧ (u.2.2.1 1 = va_cpy f1 g1 0 0 24 ∧ u.2.2.1 2 = va_cpy f2 g2 0 0 24 ∧ u.2.2.1 3 = va_cpy f3 g3 0 0 24 ∧ u.2.2.1 4 = va_cpy f4 g4 0 0 24) ∧ ∀ k : Nat, k < 3 → u.2.2.2.2.1 k = va_cpy (bf k) (bg k) 0 0 12)) ∧ okC (u.2.2.1 1) (u.2.2.1 3) (u.2.2.1 4) (u.2.2.1 5) ∧ (∀ j : Nat, (j : Int) < u.2.1.toInt → mesP (u.2.2.1 1) (u.2.2.1 2) (u.2.2.1 3) (u.2.2.1 4) (u.2.2.1 5) (u.2.2.1 6) (u.2.2.1 7) j) ∧ agW (u.2.1 = k0 ∧ (∀ k : Nat, k < 7 → u.1 k = k9 k) ∧ (u.2.2.1 1) = g1 ∧ (u.2.2.1 2) = g2 ∧ (u.2.2.1 3) = g3 ∧ (u.2.2.1 4) = g4 ∧ (u.2.2.1 5) = g5) n u.2.2.2.2.2) (bW D (va_A [(h0, .inr (9, [.ref nw, .ref kp, .int im, w3, .ref cl2, w5, .ref wo, w7, w8, w9, w10])), (kp, .inr (4, [.ref la1, .ref cl1, .ref ba1])), (la1, .inr (5, [.int (l9 0), .int (l9 1), .int (l9 2), .int (l9 3), .int (l9 4), .int (l9 5), .int (l9 6)])), (cl1, .inr (1, [.int n0, .ref c1, .ref c2, .ref c3, .ref c4, .ref c5, .ref c6, .ref c7])), (c1, .inl (T 0, 24, .inl f1)), (c2, .inl (T 0, 24, .inl f2)), (c3, .inl (T 0, 24, .inl f3)), (c4, .inl (T 0, 24, .inl f4)), (c5, .inl (T 0, 24, .inl f5)), (c6, .inl (T 0, 24, .inl f6)), (c7, .inl (T 0, 24, .inl f7)), (ba1, .inl (T 5, 3, .inr (.inr (.inr (.inr (va_up (va_up (va_up (fun _ => none) 0 (some b0)) 1 (some b1)) 2 (some b2))))))), (b0, .inr (0, [.int (bm 0), .ref a0])), (b1, .inr (0, [.int (bm 1), .ref a1])), (b2, .inr (0, [.int (bm 2), .ref a2])), (a0, .inl (T 0, 12, .inl (bf 0))), (a1, .inl (T 0, 12, .inl (bf 1))), (a2, .inl (T 0, 12, .inl (bf 2))), (nw, .inr (4, [.ref la2, .ref cl2, .ref ba2])), (la2, .inr (5, [.int (k9 0), .int (k9 1), .int (k9 2), .int (k9 3), .int (k9 4), .int (k9 5), .int (k9 6)])), (cl2, .inr (1, [.int k0, .ref d1, .ref d2, .ref d3, .ref d4, .ref d5, .ref d6, .ref d7])), (d1, .inl (T 0, 24, .inl g1)), (d2, .inl (T 0, 24, .inl g2)), (d3, .inl (T 0, 24, .inl g3)), (d4, .inl (T 0, 24, .inl g4)), (d5, .inl (T 0, 24, .inl g5)), (d6, .inl (T 0, 24, .inl g6)), (d7, .inl (T 0, 24, .inl g7)), (ba2, .inl (T 5, 3, .inr (.inr (.inr (.inr (va_up (va_up (va_up (fun _ => none) 0 (some e0)) 1 (some e1)) 2 (some e2))))))), (e0, .inr (0, [.int (bk 0), .ref z0])), (e1, .inr (0, [.int (bk 1), .ref z1])), (e2, .inr (0, [.int (bk 2), .ref z2])), (z0, .inl (T 0, 12, .inl (bg 0))), (z1, .inl (T 0, 12, .inl (bg 1))), (z2, .inl (T 0, 12, .inl (bg 2))), (wo, .inr (8, [v0, v1, v2, v3, v4, .int n]))] sz) (fun (u : (Nat → Int32) × Int32 × (Nat → Nat → Int32) × (Nat → Int32) × (Nat → Nat → Int32) × Int32) => [(h0, .inr (9, [.ref nw, .ref kp, .int im, w3, .ref cl2, w5, .ref wo, w7, w8, w9, w10])), (kp, .inr (4, [.ref la1, .ref cl1, .ref ba1])), (la1, .inr (5, [.int (l9 0), .int (l9 1), .int (l9 2), .int (l9 3), .int (l9 4), .int (l9 5), .int (l9 6)])), (cl1, .inr (1, [.int n0, .ref c1, .ref c2, .ref c3, .ref c4, .ref c5, .ref c6, .ref c7])), (c1, .inl (T 0, 24, .inl f1)), (c2, .inl (T 0, 24, .inl f2)), (c3, .inl (T 0, 24, .inl f3)), (c4, .inl (T 0, 24, .inl f4)), (c5, .inl (T 0, 24, .inl f5)), (c6, .inl (T 0, 24, .inl f6)), (c7, .inl (T 0, 24, .inl f7)), (ba1, .inl (T 5, 3, .inr (.inr (.inr (.inr (va_up (va_up (va_up (fun _ => none) 0 (some b0)) 1 (some b1)) 2 (some b2))))))), (b0, .inr (0, [.int (bm 0), .ref a0])), (b1, .inr (0, [.int (bm 1), .ref a1])), (b2, .inr (0, [.int (bm 2), .ref a2])), (a0, .inl (T 0, 12, .inl (bf 0))), (a1, .inl (T 0, 12, .inl (bf 1))), (a2, .inl (T 0, 12, .inl (bf 2))), (nw, .inr (4, [.ref la2, .ref cl2, .ref ba2])), (la2, .inr (5, [.int (u.1 0), .int (u.1 1), .int (u.1 2), .int (u.1 3), .int (u.1 4), .int (u.1 5), .int (u.1 6)])), (cl2, .inr (1, [.int u.2.1, .ref d1, .ref d2, .ref d3, .ref d4, .ref d5, .ref d6, .ref d7])), (d1, .inl (T 0, 24, .inl (u.2.2.1 1))), (d2, .inl (T 0, 24, .inl (u.2.2.1 2))), (d3, .inl (T 0, 24, .inl (u.2.2.1 3))), (d4, .inl (T 0, 24, .inl (u.2.2.1 4))), (d5, .inl (T 0, 24, .inl (u.2.2.1 5))), (d6, .inl (T 0, 24, .inl (u.2.2.1 6))), (d7, .inl (T 0, 24, .inl (u.2.2.1 7))), (ba2, .inl (T 5, 3, .inr (.inr (.inr (.inr (va_up (va_up (va_up (fun _ => none) 0 (some e0)) 1 (some e1)) 2 (some e2))))))), (e0, .inr (0, [.int (u.2.2.2.1 0), .ref z0])), (e1, .inr (0, [.int (u.2.2.2.1 1), .ref z1])), (e2, .inr (0, [.int (u.2.2.2.1 2), .ref z2])), (z0, .inl (T 0, 12, .inl (u.2.2.2.2.1 0))), (z1, .inl (T 0, 12, .inl (u.2.2.2.2.1 1))), (z2, .inl (T 0, 12, .inl (u.2.2.2.2.1 2))), (wo, .inr (8, [v0, v1, v2, v3, v4, .int u.2.2.2.2.2]))])) (va_A [(h0, .inr (9, [.ref nw, .ref kp, .int im, w3, .ref cl2, w5, .ref wo, w7, w8, w9, w10])), (kp, .inr (4, [.ref la1, .ref cl1, .ref ba1])), (la1, .inr (5, [.int (l9 0), .int (l9 1), .int (l9 2), .int (l9 3), .int (l9 4), .int (l9 5), .int (l9 6)])), (cl1, .inr (1, [.int n0, .ref c1, .ref c2, .ref c3, .ref c4, .ref c5, .ref c6, .ref c7])), (c1, .inl (T 0, 24, .inl f1)), (c2, .inl (T 0, 24, .inl f2)), (c3, .inl (T 0, 24, .inl f3)), (c4, .inl (T 0, 24, .inl f4)), (c5, .inl (T 0, 24, .inl f5)), (c6, .inl (T 0, 24, .inl f6)), (c7, .inl (T 0, 24, .inl f7)), (ba1, .inl (T 5, 3, .inr (.inr (.inr (.inr (va_up (va_up (va_up (fun _ => none) 0 (some b0)) 1 (some b1)) 2 (some b2))))))), (b0, .inr (0, [.int (bm 0), .ref a0])), (b1, .inr (0, [.int (bm 1), .ref a1])), (b2, .inr (0, [.int (bm 2), .ref a2])), (a0, .inl (T 0, 12, .inl (bf 0))), (a1, .inl (T 0, 12, .inl (bf 1))), (a2, .inl (T 0, 12, .inl (bf 2))), (nw, .inr (4, [.ref la2, .ref cl2, .ref ba2])), (la2, .inr (5, [.int (k9 0), .int (k9 1), .int (k9 2), .int (k9 3), .int (k9 4), .int (k9 5), .int (k9 6)])), (cl2, .inr (1, [.int k0, .ref d1, .ref d2, .ref d3, .ref d4, .ref d5, .ref d6, .ref d7])), (d1, .inl (T 0, 24, .inl g1)), (d2, .inl (T 0, 24, .inl g2)), (d3, .inl (T 0, 24, .inl g3)), (d4, .inl (T 0, 24, .inl g4)), (d5, .inl (T 0, 24, .inl g5)), (d6, .inl (T 0, 24, .inl g6)), (d7, .inl (T 0, 24, .inl g7)), (ba2, .inl (T 5, 3, .inr (.inr (.inr (.inr (va_up (va_up (va_up (fun _ => none) 0 (some e0)) 1 (some e1)) 2 (some e2))))))), (e0, .inr (0, [.int (bk 0), .ref z0])), (e1, .inr (0, [.int (bk 1), .ref z1])), (e2, .inr (0, [.int (bk 2), .ref z2])), (z0, .inl (T 0, 12, .inl (bg 0))), (z1, .inl (T 0, 12, .inl (bg 1))), (z2, .inl (T 0, 12, .inl (bg 2))), (wo, .inr (8, [v0, v1, v2, v3, v4, .int n]))] sz)) 0 0 (va_A [(h0, .inr (9, [.ref nw, .ref kp, .int im, w3, .ref cl2, w5, .ref wo, w7, w8, w9, w10])), (kp, .inr (4, [.ref la1, .ref cl1, .ref ba1])), (la1, .inr (5, [.int (l9 0), .int (l9 1), .int (l9 2), .int (l9 3), .int (l9 4), .int (l9 5), .int (l9 6)])), (cl1, .inr (1, [.int n0, .ref c1, .ref c2, .ref c3, .ref c4, .ref c5, .ref c6, .ref c7])), (c1, .inl (T 0, 24, .inl f1)), (c2, .inl (T 0, 24, .inl f2)), (c3, .inl (T 0, 24, .inl f3)), (c4, .inl (T 0, 24, .inl f4)), (c5, .inl (T 0, 24, .inl f5)), (c6, .inl (T 0, 24, .inl f6)), (c7, .inl (T 0, 24, .inl f7)), (ba1, .inl (T 5, 3, .inr (.inr (.inr (.inr (va_up (va_up (va_up (fun _ => none) 0 (some b0)) 1 (some b1)) 2 (some b2))))))), (b0, .inr (0, [.int (bm 0), .ref a0])), (b1, .inr (0, [.int (bm 1), .ref a1])), (b2, .inr (0, [.int (bm 2), .ref a2])), (a0, .inl (T 0, 12, .inl (bf 0))), (a1, .inl (T 0, 12, .inl (bf 1))), (a2, .inl (T 0, 12, .inl (bf 2))), (nw, .inr (4, [.ref la2, .ref cl2, .ref ba2])), (la2, .inr (5, [.int (k9 0), .int (k9 1), .int (k9 2), .int (k9 3), .int (k9 4), .int (k9 5), .int (k9 6)])), (cl2, .inr (1, [.int k0, .ref d1, .ref d2, .ref d3, .ref d4, .ref d5, .ref d6, .ref d7])), (d1, .inl (T 0, 24, .inl g1)), (d2, .inl (T 0, 24, .inl g2)), (d3, .inl (T 0, 24, .inl g3)), (d4, .inl (T 0, 24, .inl g4)), (d5, .inl (T 0, 24, .inl g5)), (d6, .inl (T 0, 24, .inl g6)), (d7, .inl (T 0, 24, .inl g7)), (ba2, .inl (T 5, 3, .inr (.inr (.inr (.inr (va_up (va_up (va_up (fun _ => none) 0 (some e0)) 1 (some e1)) 2 (some e2))))))), (e0, .inr (0, [.int (bk 0), .ref z0])), (e1, .inr (0, [.int (bk 1), .ref z1])), (e2, .inr (0, [.int (bk 2), .ref z2])), (z0, .inl (T 0, 12, .inl (bg 0))), (z1, .inl (T 0, 12, .inl (bg 1))), (z2, .inl (T 0, 12, .inl (bg 2))), (wo, .inr (8, [v0, v1, v2, v3, v4, .int n]))] sz) := by
  refine Met.ofW (cc := cX12_back) (maxL := 1) (ret := (some .int)) (by decide +kernel) rfl ?_
  intro p e s m args below meth c s₁ B hml hv
  obtain ⟨rfl, hsz, hP, hE, hD0, hV⟩ := hv
  have hx := B.exec
  have hb := B.bytes
  have hr := B.returns
  have hts := atoms_spec (ws := wsX12_back) B.pre
  have hown : s.vm.findClass RX12 = some m.cls := findClass_of_methodNamed B.named
  have hlocks := B.notSynchronized
  subst hsz
  have hD := hD0.self (sz := s.heap.size)
  generalize hAe : va_A [(h0, .inr (9, [.ref nw, .ref kp, .int im, w3, .ref cl2, w5, .ref wo, w7, w8, w9, w10])), (kp, .inr (4, [.ref la1, .ref cl1, .ref ba1])), (la1, .inr (5, [.int (l9 0), .int (l9 1), .int (l9 2), .int (l9 3), .int (l9 4), .int (l9 5), .int (l9 6)])), (cl1, .inr (1, [.int n0, .ref c1, .ref c2, .ref c3, .ref c4, .ref c5, .ref c6, .ref c7])), (c1, .inl (T 0, 24, .inl f1)), (c2, .inl (T 0, 24, .inl f2)), (c3, .inl (T 0, 24, .inl f3)), (c4, .inl (T 0, 24, .inl f4)), (c5, .inl (T 0, 24, .inl f5)), (c6, .inl (T 0, 24, .inl f6)), (c7, .inl (T 0, 24, .inl f7)), (ba1, .inl (T 5, 3, .inr (.inr (.inr (.inr (va_up (va_up (va_up (fun _ => none) 0 (some b0)) 1 (some b1)) 2 (some b2))))))), (b0, .inr (0, [.int (bm 0), .ref a0])), (b1, .inr (0, [.int (bm 1), .ref a1])), (b2, .inr (0, [.int (bm 2), .ref a2])), (a0, .inl (T 0, 12, .inl (bf 0))), (a1, .inl (T 0, 12, .inl (bf 1))), (a2, .inl (T 0, 12, .inl (bf 2))), (nw, .inr (4, [.ref la2, .ref cl2, .ref ba2])), (la2, .inr (5, [.int (k9 0), .int (k9 1), .int (k9 2), .int (k9 3), .int (k9 4), .int (k9 5), .int (k9 6)])), (cl2, .inr (1, [.int k0, .ref d1, .ref d2, .ref d3, .ref d4, .ref d5, .ref d6, .ref d7])), (d1, .inl (T 0, 24, .inl g1)), (d2, .inl (T 0, 24, .inl g2)), (d3, .inl (T 0, 24, .inl g3)), (d4, .inl (T 0, 24, .inl g4)), (d5, .inl (T 0, 24, .inl g5)), (d6, .inl (T 0, 24, .inl g6)), (d7, .inl (T 0, 24, .inl g7)), (ba2, .inl (T 5, 3, .inr (.inr (.inr (.inr (va_up (va_up (va_up (fun _ => none) 0 (some e0)) 1 (some e1)) 2 (some e2))))))), (e0, .inr (0, [.int (bk 0), .ref z0])), (e1, .inr (0, [.int (bk 1), .ref z1])), (e2, .inr (0, [.int (bk 2), .ref z2])), (z0, .inl (T 0, 12, .inl (bg 0))), (z1, .inl (T 0, 12, .inl (bg 1))), (z2, .inl (T 0, 12, .inl (bg 2))), (wo, .inr (8, [v0, v1, v2, v3, v4, .int n]))] s.heap.size = A at hD hV ⊢
  have hA : ∀ q : Nat, s.heap.size ≤ q → A q := fun q h => by rw [← hAe]; exact Or.inr h
  have hS : va_S A s.heap s.heap [] := va_S.rf
  have hP : va_P D vwCl [(h0, .inr (9, [.ref nw, .ref kp, .int im, w3, .ref cl2, w5, .ref wo, w7, w8, w9, w10])), (kp, .inr (4, [.ref la1, .ref cl1, .ref ba1])), (la1, .inr (5, [.int (l9 0), .int (l9 1), .int (l9 2), .int (l9 3), .int (l9 4), .int (l9 5), .int (l9 6)])), (cl1, .inr (1, [.int n0, .ref c1, .ref c2, .ref c3, .ref c4, .ref c5, .ref c6, .ref c7])), (c1, .inl (T 0, 24, .inl f1)), (c2, .inl (T 0, 24, .inl f2)), (c3, .inl (T 0, 24, .inl f3)), (c4, .inl (T 0, 24, .inl f4)), (c5, .inl (T 0, 24, .inl f5)), (c6, .inl (T 0, 24, .inl f6)), (c7, .inl (T 0, 24, .inl f7)), (ba1, .inl (T 5, 3, .inr (.inr (.inr (.inr (va_up (va_up (va_up (fun _ => none) 0 (some b0)) 1 (some b1)) 2 (some b2))))))), (b0, .inr (0, [.int (bm 0), .ref a0])), (b1, .inr (0, [.int (bm 1), .ref a1])), (b2, .inr (0, [.int (bm 2), .ref a2])), (a0, .inl (T 0, 12, .inl (bf 0))), (a1, .inl (T 0, 12, .inl (bf 1))), (a2, .inl (T 0, 12, .inl (bf 2))), (nw, .inr (4, [.ref la2, .ref cl2, .ref ba2])), (la2, .inr (5, [.int (k9 0), .int (k9 1), .int (k9 2), .int (k9 3), .int (k9 4), .int (k9 5), .int (k9 6)])), (cl2, .inr (1, [.int k0, .ref d1, .ref d2, .ref d3, .ref d4, .ref d5, .ref d6, .ref d7])), (d1, .inl (T 0, 24, .inl g1)), (d2, .inl (T 0, 24, .inl g2)), (d3, .inl (T 0, 24, .inl g3)), (d4, .inl (T 0, 24, .inl g4)), (d5, .inl (T 0, 24, .inl g5)), (d6, .inl (T 0, 24, .inl g6)), (d7, .inl (T 0, 24, .inl g7)), (ba2, .inl (T 5, 3, .inr (.inr (.inr (.inr (va_up (va_up (va_up (fun _ => none) 0 (some e0)) 1 (some e1)) 2 (some e2))))))), (e0, .inr (0, [.int (bk 0), .ref z0])), (e1, .inr (0, [.int (bk 1), .ref z1])), (e2, .inr (0, [.int (bk 2), .ref z2])), (z0, .inl (T 0, 12, .inl (bg 0))), (z1, .inl (T 0, 12, .inl (bg 1))), (z2, .inl (T 0, 12, .inl (bg 2))), (wo, .inr (8, [v0, v1, v2, v3, v4, .int n]))] s.heap := hP
  have hl := lv_entry ([.ref h0]) (n := 1) (Nat.le_of_ble_eq_true rfl)
  rw [lg_entry_eq]
  generalize (lg_sl ([.ref h0]) ++ List.replicate (1 - (lg_sl ([.ref h0])).length) Slot.unset).toArray = ls at hl ⊢
  have hl : lv_has ls 1 [(0, .ref h0)] := hl
  clear hD0
  refine lv_aload_n hx hb dX12_back_0 rfl (lv_at hl 0 rfl) ?_
  refine va_get (D := D) (ci := 9) (v := .int im) (C := RX12) (T := TX12) (N := 11) hx hb hts in_X12_back_X12 hown hE.1 hP 0 rfl rfl 2 (by decide +kernel) (hts (.fieldLink RX12 19 "ClauseBook" "imaged" "Z") (List.mem_of_getElem? (i := 1) rfl)) (fun _ h9 => h9) rfl dX12_back_1 ?_
  refine lv_if_ne (tgt := 10) hx hb dX12_back_4 (by decide +kernel) (fun c_1 => ?_) (fun c_1 => ?_)
  · rw [fa_eq] at c_1
    try rw [ti_0] at c_1
    refine lv_aload_n hx hb dX12_back_10 rfl (lv_at hl 0 rfl) ?_
    refine va_get (D := D) (ci := 9) (v := .ref nw) (C := RX12) (T := TX12) (N := 11) hx hb hts in_X12_back_X12 hown hE.1 hP 0 rfl rfl 0 (by decide +kernel) (hts (.fieldLink RX12 10 "ClauseBook" "now" "LClauseBook$Kept;") (List.mem_of_getElem? (i := 2) rfl)) (fun _ h9 => h9) rfl dX12_back_11 ?_
    refine lv_aload_n hx hb dX12_back_14 rfl (lv_at hl 0 rfl) ?_
    refine va_get (D := D) (ci := 9) (v := .ref kp) (C := RX12) (T := TX12) (N := 11) hx hb hts in_X12_back_X12 hown hE.1 hP 0 rfl rfl 1 (by decide +kernel) (hts (.fieldLink RX12 16 "ClauseBook" "kept" "LClauseBook$Kept;") (List.mem_of_getElem? (i := 3) rfl)) (fun _ h9 => h9) rfl dX12_back_15 ?_
    have hFc := va_free (wc := [(nw, .inr (4, [.ref la2, .ref cl2, .ref ba2])), (la2, .inr (5, [.int (k9 0), .int (k9 1), .int (k9 2), .int (k9 3), .int (k9 4), .int (k9 5), .int (k9 6)])), (cl2, .inr (1, [.int k0, .ref d1, .ref d2, .ref d3, .ref d4, .ref d5, .ref d6, .ref d7])), (d1, .inl (T 0, 24, .inl g1)), (d2, .inl (T 0, 24, .inl g2)), (d3, .inl (T 0, 24, .inl g3)), (d4, .inl (T 0, 24, .inl g4)), (d5, .inl (T 0, 24, .inl g5)), (d6, .inl (T 0, 24, .inl g6)), (d7, .inl (T 0, 24, .inl g7)), (ba2, .inl (T 5, 3, .inr (.inr (.inr (.inr (va_up (va_up (va_up (fun _ => none) 0 (some e0)) 1 (some e1)) 2 (some e2))))))), (e0, .inr (0, [.int (bk 0), .ref z0])), (e1, .inr (0, [.int (bk 1), .ref z1])), (e2, .inr (0, [.int (bk 2), .ref z2])), (z0, .inl (T 0, 12, .inl (bg 0))), (z1, .inl (T 0, 12, .inl (bg 1))), (z2, .inl (T 0, 12, .inl (bg 2))), (kp, .inr (4, [.ref la1, .ref cl1, .ref ba1])), (la1, .inr (5, [.int (l9 0), .int (l9 1), .int (l9 2), .int (l9 3), .int (l9 4), .int (l9 5), .int (l9 6)])), (cl1, .inr (1, [.int n0, .ref c1, .ref c2, .ref c3, .ref c4, .ref c5, .ref c6, .ref c7])), (c1, .inl (T 0, 24, .inl f1)), (c2, .inl (T 0, 24, .inl f2)), (c3, .inl (T 0, 24, .inl f3)), (c4, .inl (T 0, 24, .inl f4)), (c5, .inl (T 0, 24, .inl f5)), (c6, .inl (T 0, 24, .inl f6)), (c7, .inl (T 0, 24, .inl f7)), (ba1, .inl (T 5, 3, .inr (.inr (.inr (.inr (va_up (va_up (va_up (fun _ => none) 0 (some b0)) 1 (some b1)) 2 (some b2))))))), (b0, .inr (0, [.int (bm 0), .ref a0])), (b1, .inr (0, [.int (bm 1), .ref a1])), (b2, .inr (0, [.int (bm 2), .ref a2])), (a0, .inl (T 0, 12, .inl (bf 0))), (a1, .inl (T 0, 12, .inl (bf 1))), (a2, .inl (T 0, 12, .inl (bf 2)))]) hD hS hA [18, 19, 20, 21, 22, 23, 24, 25, 26, 27, 28, 29, 30, 31, 32, 33, 34, 1, 2, 3, 4, 5, 6, 7, 8, 9, 10, 11, 12, 13, 14, 15, 16, 17] rfl
    refine va_callv (va_runV (As := [.ref kp]) (rest := []) ⟨hx, hb, hml, hown, hts⟩ (c_X6_become l D T ad sa av ta _ nw kp la2 cl2 ba2 la1 cl1 ba1 d1 d2 d3 d4 d5 d6 d7 c1 c2 c3 c4 c5 c6 c7 e0 e1 e2 z0 z1 z2 b0 b1 b2 a0 a1 a2 k9 l9 k0 n0 g1 g2 g3 g4 g5 g6 g7 f1 f2 f3 f4 f5 f6 f7 bk bm bg bf (by omega) hokg hok) (cwV 1 hts gX12_back_X6_become rfl rfl rfl hv_X6_become ⟨Nat.le_of_ble_eq_true rfl, Nat.le_of_ble_eq_true rfl⟩) (pWk_V (q := (RX6, TX6, 3)) (ci := 4) (q0 := 18) hP hE hD hV hS hFc rfl rfl [18, 19, 20, 21, 22, 23, 24, 25, 26, 27, 28, 29, 30, 31, 32, 33, 34, 1, 2, 3, 4, 5, 6, 7, 8, 9, 10, 11, 12, 13, 14, 15, 16, 17] (by decide +kernel) rfl rfl) rfl rfl hl.1 rfl (lv_room (Nat.le_of_ble_eq_true rfl)) dX12_back_18 ⟨Nat.le_of_ble_eq_true rfl, Nat.le_of_ble_eq_true rfl⟩) hS (fun q _ h => hFc q h) hFc (fun u_3 t H1 locs ht hvm hr_2 hB hz1 hk1 hS => ?_)
    obtain ⟨f_4, f_5, f_6⟩ := u_3
    have hokf_4 : okC (va_cpy f1 g1 0 0 24) (va_cpy f3 g3 0 0 24) (va_cpy f4 g4 0 0 24) f_4 := hr_2.1
    have hmbf_4 : ∀ j : Nat, (j : Int) < (n0 : Int32).toInt → mesP (va_cpy f1 g1 0 0 24) (va_cpy f2 g2 0 0 24) (va_cpy f3 g3 0 0 24) (va_cpy f4 g4 0 0 24) f_4 f_5 f_6 j := hr_2.2
    obtain ⟨hP1, hD1⟩ := hB
    rw [ht] at hP1
    obtain ⟨hP, hD⟩ := va_repl [(h0, .inr (9, [.ref nw, .ref kp, .int im, w3, .ref cl2, w5, .ref wo, w7, w8, w9, w10])), (kp, .inr (4, [.ref la1, .ref cl1, .ref ba1])), (la1, .inr (5, [.int (l9 0), .int (l9 1), .int (l9 2), .int (l9 3), .int (l9 4), .int (l9 5), .int (l9 6)])), (cl1, .inr (1, [.int n0, .ref c1, .ref c2, .ref c3, .ref c4, .ref c5, .ref c6, .ref c7])), (c1, .inl (T 0, 24, .inl f1)), (c2, .inl (T 0, 24, .inl f2)), (c3, .inl (T 0, 24, .inl f3)), (c4, .inl (T 0, 24, .inl f4)), (c5, .inl (T 0, 24, .inl f5)), (c6, .inl (T 0, 24, .inl f6)), (c7, .inl (T 0, 24, .inl f7)), (ba1, .inl (T 5, 3, .inr (.inr (.inr (.inr (va_up (va_up (va_up (fun _ => none) 0 (some b0)) 1 (some b1)) 2 (some b2))))))), (b0, .inr (0, [.int (bm 0), .ref a0])), (b1, .inr (0, [.int (bm 1), .ref a1])), (b2, .inr (0, [.int (bm 2), .ref a2])), (a0, .inl (T 0, 12, .inl (bf 0))), (a1, .inl (T 0, 12, .inl (bf 1))), (a2, .inl (T 0, 12, .inl (bf 2))), (nw, .inr (4, [.ref la2, .ref cl2, .ref ba2])), (la2, .inr (5, [.int (l9 0), .int (l9 1), .int (l9 2), .int (l9 3), .int (l9 4), .int (l9 5), .int (l9 6)])), (cl2, .inr (1, [.int n0, .ref d1, .ref d2, .ref d3, .ref d4, .ref d5, .ref d6, .ref d7])), (d1, .inl (T 0, 24, .inl (va_cpy f1 g1 0 0 24))), (d2, .inl (T 0, 24, .inl (va_cpy f2 g2 0 0 24))), (d3, .inl (T 0, 24, .inl (va_cpy f3 g3 0 0 24))), (d4, .inl (T 0, 24, .inl (va_cpy f4 g4 0 0 24))), (d5, .inl (T 0, 24, .inl f_4)), (d6, .inl (T 0, 24, .inl f_5)), (d7, .inl (T 0, 24, .inl f_6)), (ba2, .inl (T 5, 3, .inr (.inr (.inr (.inr (va_up (va_up (va_up (fun _ => none) 0 (some e0)) 1 (some e1)) 2 (some e2))))))), (e0, .inr (0, [.int (bm 0), .ref z0])), (e1, .inr (0, [.int (bm 1), .ref z1])), (e2, .inr (0, [.int (bm 2), .ref z2])), (z0, .inl (T 0, 12, .inl (va_cpy (bf 0) (bg 0) 0 0 12))), (z1, .inl (T 0, 12, .inl (va_cpy (bf 1) (bg 1) 0 0 12))), (z2, .inl (T 0, 12, .inl (va_cpy (bf 2) (bg 2) 0 0 12))), (wo, .inr (8, [v0, v1, v2, v3, v4, .int n]))] hP hD [18, 19, 20, 21, 22, 23, 24, 25, 26, 27, 28, 29, 30, 31, 32, 33, 34, 1, 2, 3, 4, 5, 6, 7, 8, 9, 10, 11, 12, 13, 14, 15, 16, 17] [1, 2, 3, 4, 5, 6, 7, 8, 9, 10, 11, 12, 13, 14, 15, 16, 17, 18, 19, 20, 21, 22, 23, 24, 25, 26, 27, 28, 29, 30, 31, 32, 33, 34] rfl (by decide +kernel) rfl rfl rfl hk1 (hP1.sub [17, 18, 19, 20, 21, 22, 23, 24, 25, 26, 27, 28, 29, 30, 31, 32, 33, 0, 1, 2, 3, 4, 5, 6, 7, 8, 9, 10, 11, 12, 13, 14, 15, 16] rfl)
    clear hP1 hD1 hFc
    generalize H1 = H at hP hS ⊢
    refine lv_aload_n hx hb dX12_back_21 rfl (lv_at hl 0 rfl) ?_
    refine va_get (D := D) (ci := 9) (v := .ref wo) (C := RX12) (T := TX12) (N := 11) hx hb hts in_X12_back_X12 hown hE.1 hP 0 rfl rfl 6 (by decide +kernel) (hts (.fieldLink RX12 43 "ClauseBook" "worth" "LClauseBook$Worth;") (List.mem_of_getElem? (i := 4) rfl)) (fun _ h9 => h9) rfl dX12_back_22 ?_
    have hFc := va_free (wc := [(wo, .inr (8, [v0, v1, v2, v3, v4, .int n]))]) hD hS hA [35] rfl
    refine va_callv (va_runV (As := []) (rest := []) ⟨hx, hb, hml, hown, hts⟩ (c_X11_forget l D T _ wo (v0) (v1) (v2) (v3) (v4) n) (cwV 0 hts gX12_back_X11_forget rfl rfl rfl hv_X11_forget ⟨Nat.le_of_ble_eq_true rfl, Nat.le_of_ble_eq_true rfl⟩) (pW_V (q := (RX11, TX11, 6)) (ci := 8) (q0 := 35) hP hE hD rfl rfl [35] (by decide +kernel) rfl rfl) rfl rfl hl.1 rfl (lv_room (Nat.le_of_ble_eq_true rfl)) dX12_back_25 ⟨Nat.le_of_ble_eq_true rfl, Nat.le_of_ble_eq_true rfl⟩) hS (fun q _ h => hFc q h) hFc (fun u_8 t H1 locs ht hvm hr_7 hB hz1 hk1 hS => ?_)
    have hag9 : u_8 = n + 1 := hr_7
    obtain ⟨hP1, hD1⟩ := hB
    rw [ht] at hP1
    obtain ⟨hP, hD⟩ := va_repl [(h0, .inr (9, [.ref nw, .ref kp, .int im, w3, .ref cl2, w5, .ref wo, w7, w8, w9, w10])), (kp, .inr (4, [.ref la1, .ref cl1, .ref ba1])), (la1, .inr (5, [.int (l9 0), .int (l9 1), .int (l9 2), .int (l9 3), .int (l9 4), .int (l9 5), .int (l9 6)])), (cl1, .inr (1, [.int n0, .ref c1, .ref c2, .ref c3, .ref c4, .ref c5, .ref c6, .ref c7])), (c1, .inl (T 0, 24, .inl f1)), (c2, .inl (T 0, 24, .inl f2)), (c3, .inl (T 0, 24, .inl f3)), (c4, .inl (T 0, 24, .inl f4)), (c5, .inl (T 0, 24, .inl f5)), (c6, .inl (T 0, 24, .inl f6)), (c7, .inl (T 0, 24, .inl f7)), (ba1, .inl (T 5, 3, .inr (.inr (.inr (.inr (va_up (va_up (va_up (fun _ => none) 0 (some b0)) 1 (some b1)) 2 (some b2))))))), (b0, .inr (0, [.int (bm 0), .ref a0])), (b1, .inr (0, [.int (bm 1), .ref a1])), (b2, .inr (0, [.int (bm 2), .ref a2])), (a0, .inl (T 0, 12, .inl (bf 0))), (a1, .inl (T 0, 12, .inl (bf 1))), (a2, .inl (T 0, 12, .inl (bf 2))), (nw, .inr (4, [.ref la2, .ref cl2, .ref ba2])), (la2, .inr (5, [.int (l9 0), .int (l9 1), .int (l9 2), .int (l9 3), .int (l9 4), .int (l9 5), .int (l9 6)])), (cl2, .inr (1, [.int n0, .ref d1, .ref d2, .ref d3, .ref d4, .ref d5, .ref d6, .ref d7])), (d1, .inl (T 0, 24, .inl (va_cpy f1 g1 0 0 24))), (d2, .inl (T 0, 24, .inl (va_cpy f2 g2 0 0 24))), (d3, .inl (T 0, 24, .inl (va_cpy f3 g3 0 0 24))), (d4, .inl (T 0, 24, .inl (va_cpy f4 g4 0 0 24))), (d5, .inl (T 0, 24, .inl f_4)), (d6, .inl (T 0, 24, .inl f_5)), (d7, .inl (T 0, 24, .inl f_6)), (ba2, .inl (T 5, 3, .inr (.inr (.inr (.inr (va_up (va_up (va_up (fun _ => none) 0 (some e0)) 1 (some e1)) 2 (some e2))))))), (e0, .inr (0, [.int (bm 0), .ref z0])), (e1, .inr (0, [.int (bm 1), .ref z1])), (e2, .inr (0, [.int (bm 2), .ref z2])), (z0, .inl (T 0, 12, .inl (va_cpy (bf 0) (bg 0) 0 0 12))), (z1, .inl (T 0, 12, .inl (va_cpy (bf 1) (bg 1) 0 0 12))), (z2, .inl (T 0, 12, .inl (va_cpy (bf 2) (bg 2) 0 0 12))), (wo, .inr (8, [v0, v1, v2, v3, v4, .int u_8]))] hP hD [35] [35] rfl (by decide +kernel) rfl rfl rfl hk1 hP1
    clear hP1 hD1 hFc
    generalize H1 = H at hP hS ⊢
    refine lv_aload_n hx hb dX12_back_28 rfl (lv_at hl 0 rfl) ?_
    refine va_get (D := D) (ci := 9) (v := .ref cl2) (C := RX12) (T := TX12) (N := 11) hx hb hts in_X12_back_X12 hown hE.1 hP 0 rfl rfl 4 (by decide +kernel) (hts (.fieldLink RX12 32 "ClauseBook" "clauses" "LClauseBook$Clauses;") (List.mem_of_getElem? (i := 5) rfl)) (fun _ h9 => h9) rfl dX12_back_29 ?_
    refine va_get (D := D) (ci := 1) (v := .int n0) (C := RX2) (T := TX2) (N := 8) hx hb hts in_X12_back_X2 hown hE.1 hP 20 rfl rfl 0 (by decide +kernel) (hts (.fieldLink RX12 138 "ClauseBook$Clauses" "size" "I") (List.mem_of_getElem? (i := 6) rfl)) (fun _ h9 => h9) rfl dX12_back_32 ?_
    exact W.iret hx hb hr (fun t ht hW => ⟨⟨_, (l9, n0, (fun k => [g1, (va_cpy f1 g1 0 0 24), (va_cpy f2 g2 0 0 24), (va_cpy f3 g3 0 0 24), (va_cpy f4 g4 0 0 24), f_4, f_5, f_6].getD k g1), bm, (fun k => [(va_cpy (bf 0) (bg 0) 0 0 12), (va_cpy (bf 1) (bg 1) 0 0 12), (va_cpy (bf 2) (bg 2) 0 0 12)].getD k (va_cpy (bf 0) (bg 0) 0 0 12)), u_8), rfl, ⟨Or.inr ⟨(by first | assumption | (rw [fa_eq]; simp only [ti_0]; assumption)), (fun k _ => rfl), rfl, (fun k _ => rfl), rfl, ⟨rfl, rfl, rfl, rfl⟩, all3 rfl rfl rfl⟩, (show okC (va_cpy f1 g1 0 0 24) (va_cpy f3 g3 0 0 24) (va_cpy f4 g4 0 0 24) f_4 from hokf_4), hmbf_4, (Or.inr hag9)⟩, by rw [ht]; exact hP.sub [0, 1, 2, 3, 4, 5, 6, 7, 8, 9, 10, 11, 12, 13, 14, 15, 16, 17, 18, 19, 20, 21, 22, 23, 24, 25, 26, 27, 28, 29, 30, 31, 32, 33, 34, 35] rfl, hD.sub [0, 1, 2, 3, 4, 5, 6, 7, 8, 9, 10, 11, 12, 13, 14, 15, 16, 17, 18, 19, 20, 21, 22, 23, 24, 25, 26, 27, 28, 29, 30, 31, 32, 33, 34, 35] (by decide +kernel) rfl⟩, hS.F ht⟩) hS.2.2 dX12_back_35
  · rw [fa_eq] at c_1
    try rw [ti_0] at c_1
    refine lv_bipush (v := (-3)) hx hb dX12_back_7 (by decide +kernel) ?_
    exact W.iret hx hb hr (fun t ht hW => ⟨⟨_, (k9, k0, (fun k => [g1, g1, g2, g3, g4, g5, g6, g7].getD k g1), bk, bg, n), rfl, ⟨Or.inl ⟨(by first | assumption | (rw [fa_eq]; simp only [ti_0]; assumption)), (fun k _ => rfl), rfl, (fun k _ => rfl), (by decide +kernel), ⟨rfl, rfl, rfl, rfl⟩, all3 rfl rfl rfl⟩, (show okC g1 g3 g4 g5 from hokg), hme, (Or.inl ⟨⟨rfl, (fun _ _ => rfl), rfl, rfl, rfl, rfl, rfl⟩, rfl⟩)⟩, by rw [ht]; exact hP.sub [0, 1, 2, 3, 4, 5, 6, 7, 8, 9, 10, 11, 12, 13, 14, 15, 16, 17, 18, 19, 20, 21, 22, 23, 24, 25, 26, 27, 28, 29, 30, 31, 32, 33, 34, 35] rfl, hD.sub [0, 1, 2, 3, 4, 5, 6, 7, 8, 9, 10, 11, 12, 13, 14, 15, 16, 17, 18, 19, 20, 21, 22, 23, 24, 25, 26, 27, 28, 29, 30, 31, 32, 33, 34, 35] (by decide +kernel) rfl⟩, hS.F ht⟩) hS.2.2 dX12_back_9
end
