theorem dX2_kindOf_0 : decode cX2_kindOf 0 = .ok (.getstatic 41, 3) := by decide +kernel
theorem dX2_kindOf_10 : decode cX2_kindOf 10 = .ok (.areturn, 1) := by decide +kernel
theorem dX2_kindOf_3 : decode cX2_kindOf 3 = .ok (.aload_n 0, 1) := by decide +kernel
theorem dX2_kindOf_4 : decode cX2_kindOf 4 = .ok (.getfield 15, 3) := by decide +kernel
theorem dX2_kindOf_7 : decode cX2_kindOf 7 = .ok (.iload_n 1, 1) := by decide +kernel
theorem dX2_kindOf_8 : decode cX2_kindOf 8 = .ok (.iaload, 1) := by decide +kernel
theorem dX2_kindOf_9 : decode cX2_kindOf 9 = .ok (.aaload, 1) := by decide +kernel
set_option maxRecDepth 20000 in
theorem in_X2_kindOf_X2 : ∀ w ∈ wsX20, w ∈ wsX2_kindOf := sub_r [2, 3, 4, 5, 6, 7, 8, 9] rfl
set_option maxHeartbeats 4000000 in
set_option maxRecDepth 100000 in
theorem c_X2_kindOf (l : Launch) (D : va_G) (T : Nat → ClassId) (ad sa av : Nat → Nat) (ta : Nat) (h0 : Nat) (fs0 : List Value) (h1 : Nat) (f1 : Nat → Int32) (x1 : Int32) (e0_1 : fs0[1]? = some (.ref h1)) (hx : 0 ≤ x1.toInt ∧ x1.toInt < 24) (hk : 0 ≤ (f1 (x1.toNatClampNeg)).toInt ∧ (f1 (x1.toNatClampNeg)).toInt ≤ 12) : Met l yX2_kindOf wsX2_kindOf ({ frames := 0, cells := 0, slots := 0, locals := 0 }) (pRk [.ref h0, .int x1] D T [(h0, .inr (1, fs0)), (h1, .inl (T 0, 24, .inl f1))] ad sa av ta) (va_Se ad (fun r => r = some ((f1 (x1.toNatClampNeg)).toNatClampNeg))) 0 0 (fun _ => False) := by
  refine Met.ofW (cc := cX2_kindOf) (maxL := 2) (ret := (some (.object "ClauseBook$Kind"))) (by decide +kernel) rfl ?_
  intro p e s m args below meth c s₁ B hml hv
  obtain ⟨rfl, hP, hE, hV⟩ := hv
  have hS : va_S (fun _ => False) s.heap s.heap [] := va_S.rf
  have hx := B.exec
  have hb := B.bytes
  have hr := B.returns
  have hts := atoms_spec (ws := wsX2_kindOf) B.pre
  have hown : s.vm.findClass RX2 = some m.cls := findClass_of_methodNamed B.named
  have hlocks := B.notSynchronized
  have hP : va_P D vwCl [(h0, .inr (1, fs0)), (h1, .inl (T 0, 24, .inl f1))] s.heap := hP
  have hl := lv_entry ([.ref h0, .int x1]) (n := 2) (Nat.le_of_ble_eq_true rfl)
  rw [lg_entry_eq]
  generalize (lg_sl ([.ref h0, .int x1]) ++ List.replicate (2 - (lg_sl ([.ref h0, .int x1])).length) Slot.unset).toArray = ls at hl ⊢
  have hl : lv_has ls 2 [(0, .ref h0), (1, .int x1)] := hl
  refine va_getsN (v := .ref ta) hx hb hV.1.2.1 hS hown (va_Nw.use rfl (hE.2.2.1 (RX2, 41) (List.mem_of_getElem? (i := 1) rfl))) (fun _ h9 => h9) dX2_kindOf_0 ?_
  refine lv_aload_n hx hb dX2_kindOf_3 rfl (lv_at hl 0 rfl) ?_
  refine va_get (D := D) (ci := 1) (v := .ref h1) (C := RX2) (T := TX2) (N := 8) hx hb hts in_X2_kindOf_X2 hown hE.1 hP 0 rfl rfl 1 (by decide +kernel) (hts (.fieldLink RX2 15 "ClauseBook$Clauses" "kind" "[I") (List.mem_of_getElem? (i := 1) rfl)) (fun _ h9 => h9) e0_1 dX2_kindOf_4 ?_
  refine lv_iload_n hx hb dX2_kindOf_7 rfl (lv_at hl 1 rfl) ?_
  refine va_iald hx hb hE.1 hP 1 0 rfl rfl (by rw [vp_in_iff]; omega) dX2_kindOf_8 ?_
  refine vb_tq (v := .ref (ad ((f1 x1.toNatClampNeg).toNatClampNeg))) hx hb hV.1.2.2 hS (by rw [vp_in_iff]; omega) rfl dX2_kindOf_9 ?_
  exact W.aret (v := .ref (ad ((f1 x1.toNatClampNeg).toNatClampNeg))) hx hb hr (Or.inl ⟨_, rfl⟩) (Or.inr ⟨_, rfl⟩) (fun t ht hW => ⟨some ((f1 (x1.toNatClampNeg)).toNatClampNeg), rfl, rfl, ht⟩) (fun _ h => by cases h) dX2_kindOf_10
/-! ends, how many, how deep: what stands at a clause follows from what it names -/
def endB (fk fc fd fe : Nat → Int32) (j : Nat) : Int := if (nmT (fk j).toNatClampNeg).toInt = 0 then 6 else if (nmT (fk j).toNatClampNeg).toInt = 2 then max (fe (fc j).toNatClampNeg).toInt (fe (fd j).toNatClampNeg).toInt else (fe (fc j).toNatClampNeg).toInt
def mesE (fk fn fc fd fe : Nat → Int32) (j : Nat) : Int := if (fk j).toNatClampNeg = 8 then min (endB fk fc fd fe j) (fn j).toInt else endB fk fc fd fe j
def mesM (fk fc fd fm : Nat → Int32) (j : Nat) : Int32 := if (nmT (fk j).toNatClampNeg).toInt = 0 then 1 else if (nmT (fk j).toNatClampNeg).toInt = 2 then (1 + fm (fc j).toNatClampNeg) + fm (fd j).toNatClampNeg else 1 + fm (fc j).toNatClampNeg
def mesD (fk fc fd fp : Nat → Int32) (j : Nat) : Int32 := if (nmT (fk j).toNatClampNeg).toInt = 0 then 1 else if (nmT (fk j).toNatClampNeg).toInt = 2 then (if (fp (fc j).toNatClampNeg).toInt < (fp (fd j).toNatClampNeg).toInt then fp (fd j).toNatClampNeg else fp (fc j).toNatClampNeg) + 1 else fp (fc j).toNatClampNeg + 1
def mesP (fk fn fc fd fe fm fp : Nat → Int32) (j : Nat) : Prop := (fe j).toInt = mesE fk fn fc fd fe j ∧ fm j = mesM fk fc fd fm j ∧ fp j = mesD fk fc fd fp j
theorem mes_same {fk gk fn gn fc gc fd gd fe ge fm gm fp gp : Nat → Int32} {j : Nat} (hk : fk j = gk j) (hn : fn j = gn j) (hc : 1 ≤ (nmT (fk j).toNatClampNeg).toInt → fc j = gc j ∧ fe (fc j).toNatClampNeg = ge (fc j).toNatClampNeg ∧ fm (fc j).toNatClampNeg = gm (fc j).toNatClampNeg ∧ fp (fc j).toNatClampNeg = gp (fc j).toNatClampNeg) (hd : (nmT (fk j).toNatClampNeg).toInt = 2 → fd j = gd j ∧ fe (fd j).toNatClampNeg = ge (fd j).toNatClampNeg ∧ fm (fd j).toNatClampNeg = gm (fd j).toNatClampNeg ∧ fp (fd j).toNatClampNeg = gp (fd j).toNatClampNeg) : mesE fk fn fc fd fe j = mesE gk gn gc gd ge j ∧ mesM fk fc fd fm j = mesM gk gc gd gm j ∧ mesD fk fc fd fp j = mesD gk gc gd gp j := by
  unfold mesE endB mesM mesD
  rw [← hk, ← hn]
  have hN := nmT_in (fk j).toNatClampNeg
  by_cases h0 : (nmT (fk j).toNatClampNeg).toInt = 0
  · simp only [if_pos h0]
    refine ⟨?_, ?_, ?_⟩ <;> first | rfl | trivial
  · have hc := hc (by omega)
    simp only [if_neg h0]
    rw [← hc.1, ← hc.2.1, ← hc.2.2.1, ← hc.2.2.2]
    by_cases h2 : (nmT (fk j).toNatClampNeg).toInt = 2
    · have hd := hd h2
      simp only [if_pos h2]
      rw [← hd.1, ← hd.2.1, ← hd.2.2.1, ← hd.2.2.2]
      refine ⟨?_, ?_, ?_⟩ <;> first | rfl | trivial
    · simp only [if_neg h2]
      refine ⟨?_, ?_, ?_⟩ <;> first | rfl | trivial
/-- what is named stands earlier -/
def okN (fk fc fd : Nat → Int32) (n : Nat) : Prop := ∀ j : Nat, j < n → (1 ≤ (nmT (fk j).toNatClampNeg).toInt → 0 ≤ (fc j).toInt ∧ (fc j).toInt < j) ∧ ((nmT (fk j).toNatClampNeg).toInt = 2 → 0 ≤ (fd j).toInt ∧ (fd j).toInt < j)
theorem okC.N {fk fc fd fe : Nat → Int32} (h : okC fk fc fd fe) : okN fk fc fd 24 := fun j hj => ⟨(h j hj).2.1, (h j hj).2.2.1⟩
theorem mes_uniq {fk gk fn gn fc gc fd gd fe ge fm gm fp gp : Nat → Int32} {n : Nat} (ok : okN fk fc fd n) (h : ∀ j : Nat, j < n → fk j = gk j ∧ fn j = gn j ∧ (1 ≤ (nmT (fk j).toNatClampNeg).toInt → fc j = gc j) ∧ ((nmT (fk j).toNatClampNeg).toInt = 2 → fd j = gd j)) (a : ∀ j : Nat, j < n → mesP fk fn fc fd fe fm fp j) (b : ∀ j : Nat, j < n → mesP gk gn gc gd ge gm gp j) : ∀ (m j : Nat), j < m → j < n → fe j = ge j ∧ fm j = gm j ∧ fp j = gp j
  | 0, j, hj, _ => absurd hj (Nat.not_lt_zero j)
  | m + 1, j, hj, hn => by
    have ih := mes_uniq ok h a b m
    obtain ⟨h1, h2, h3, h4⟩ := h j hn
    obtain ⟨o1, o2⟩ := ok j hn
    obtain ⟨e1, e2, e3⟩ := mes_same (fe := fe) (ge := ge) (fm := fm) (gm := gm) (fp := fp) (gp := gp) h1 h2 (fun q => by
      have c := o1 q
      have t := tn c.1
      have i := ih (fc j).toNatClampNeg (by omega) (by omega)
      exact ⟨h3 q, i.1, i.2.1, i.2.2⟩) (fun q => by
      have c := o2 q
      have t := tn c.1
      have i := ih (fd j).toNatClampNeg (by omega) (by omega)
      exact ⟨h4 q, i.1, i.2.1, i.2.2⟩)
    obtain ⟨a1, a2, a3⟩ := a j hn
    obtain ⟨b1, b2, b3⟩ := b j hn
    exact ⟨Int32.toInt_inj.1 (by rw [a1, b1, e1]), by rw [a2, b2, e2], by rw [a3, b3, e3]⟩
/-- those ahead of x don't look at x -/
theorem mes_ahead {fk gk fn gn fc gc fd gd fe ge fm gm fp gp : Nat → Int32} {x : Nat} (ok : okN fk fc fd x) (h : ∀ j : Nat, j < x → gk j = fk j ∧ gn j = fn j ∧ gc j = fc j ∧ gd j = fd j ∧ ge j = fe j ∧ gm j = fm j ∧ gp j = fp j) (a : ∀ j : Nat, j < x → mesP fk fn fc fd fe fm fp j) : ∀ j : Nat, j < x → mesP gk gn gc gd ge gm gp j := by
  intro j hj
  obtain ⟨h1, h2, h3, h4, h5, h6, h7⟩ := h j hj
  obtain ⟨o1, o2⟩ := ok j hj
  obtain ⟨e1, e2, e3⟩ := mes_same (gk := gk) (gn := gn) (gc := gc) (gd := gd) (fe := fe) (ge := ge) (fm := fm) (gm := gm) (fp := fp) (gp := gp) h1.symm h2.symm (fun q => by
    have c := o1 q
    have t := tn c.1
    obtain ⟨-, -, -, -, i5, i6, i7⟩ := h (fc j).toNatClampNeg (by omega)
    exact ⟨h3.symm, i5.symm, i6.symm, i7.symm⟩) (fun q => by
    have c := o2 q
    have t := tn c.1
    obtain ⟨-, -, -, -, i5, i6, i7⟩ := h (fd j).toNatClampNeg (by omega)
    exact ⟨h4.symm, i5.symm, i6.symm, i7.symm⟩)
  obtain ⟨a1, a2, a3⟩ := a j hj
  exact ⟨by rw [h5, a1, e1], by rw [h6, a2, e2], by rw [h7, a3, e3]⟩
theorem mes_step {fk fn fc fd fe fm fp : Nat → Int32} {x : Nat} {v m p : Int32} (ok : okN fk fc fd (x + 1)) (a : ∀ j : Nat, j < x → mesP fk fn fc fd fe fm fp j) (hv : v.toInt = mesE fk fn fc fd fe x) (hm : m = mesM fk fc fd fm x) (hp : p = mesD fk fc fd fp x) : ∀ j : Nat, j < x + 1 → mesP fk fn fc fd (upd fe x v) (upd fm x m) (upd fp x p) j := by
  intro j hj
  by_cases e : j = x
  · subst e
    obtain ⟨o1, o2⟩ := ok j hj
    obtain ⟨e1, e2, e3⟩ := mes_same (fk := fk) (gk := fk) (fn := fn) (gn := fn) (fc := fc) (gc := fc) (fd := fd) (gd := fd) (fe := fe) (ge := upd fe j v) (fm := fm) (gm := upd fm j m) (fp := fp) (gp := upd fp j p) (j := j) rfl rfl (fun q => by
      have c := o1 q
      have t := tn c.1
      have i : ¬ (fc j).toNatClampNeg = j := by omega
      simp only [upd, if_neg i]
      refine ⟨?_, ?_, ?_, ?_⟩ <;> first | rfl | trivial) (fun q => by
      have c := o2 q
      have t := tn c.1
      have i : ¬ (fd j).toNatClampNeg = j := by omega
      simp only [upd, if_neg i]
      refine ⟨?_, ?_, ?_, ?_⟩ <;> first | rfl | trivial)
    unfold mesP
    rw [← e1, ← e2, ← e3]
    simp only [upd, if_pos]
    exact ⟨hv, hm, hp⟩
  · exact mes_ahead (x := x) (fun j hj => ok j (by omega)) (fun j hj => by
      have i : ¬ j = x := by omega
      simp only [upd, if_neg i]
      refine ⟨?_, ?_, ?_, ?_, ?_, ?_, ?_⟩ <;> first | rfl | trivial) a j (by omega)
/-! measure(x), by what it reads -/
def mesQ (fk fn fc fd fe fm fp : Nat → Int32) (x : Int32) (ge gm gp : Nat → Int32) : Prop := ∃ v m p : Int32, ge = upd fe x.toNatClampNeg v ∧ gm = upd fm x.toNatClampNeg m ∧ gp = upd fp x.toNatClampNeg p ∧ v.toInt = mesE fk fn fc fd fe x.toNatClampNeg ∧ m = mesM fk fc fd fm x.toNatClampNeg ∧ p = mesD fk fc fd fp x.toNatClampNeg
theorem imax_t {a b : Int32} : (if a < b then b else a).toInt = max a.toInt b.toInt := by
  by_cases h : a < b
  · rw [if_pos h]
    rw [fa_lt] at h
    omega
  · rw [if_neg h]
    rw [fa_lt] at h
    omega
theorem imin_t {a b : Int32} : (if b < a then b else a).toInt = min a.toInt b.toInt := by
  by_cases h : b < a
  · rw [if_pos h]
    rw [fa_lt] at h
    omega
  · rw [if_neg h]
    rw [fa_lt] at h
    omega
theorem endB_0 {fk fc fd fe : Nat → Int32} {j : Nat} (h : (nmT (fk j).toNatClampNeg).toInt = 0) : (6 : Int32).toInt = endB fk fc fd fe j := by
  unfold endB
  rw [if_pos h]
  decide
theorem endB_1 {fk fc fd fe : Nat → Int32} {j : Nat} {e c : Int32} (h : (nmT (fk j).toNatClampNeg).toInt = 1) (he : e = fe c.toNatClampNeg) (hc : c = fc j) : e.toInt = endB fk fc fd fe j := by
  unfold endB
  rw [if_neg (by omega), if_neg (by omega), he, hc]
theorem endB_2 {fk fc fd fe : Nat → Int32} {j : Nat} {v e c e2 d : Int32} (h : (nmT (fk j).toNatClampNeg).toInt = 2) (hv : v = if e < e2 then e2 else e) (he : e = fe c.toNatClampNeg) (hc : c = fc j) (he2 : e2 = fe d.toNatClampNeg) (hd : d = fd j) : v.toInt = endB fk fc fd fe j := by
  unfold endB
  rw [if_neg (by omega), if_pos h, hv, imax_t, he, he2, hc, hd]
theorem mesE_no {fk fn fc fd fe : Nat → Int32} {j : Nat} {v : Int32} (hk : ¬ (fk j).toNatClampNeg = 8) (hb : v.toInt = endB fk fc fd fe j) : v.toInt = mesE fk fn fc fd fe j := by
  unfold mesE
  rw [if_neg hk]
  exact hb
theorem mesE_yes {fk fn fc fd fe : Nat → Int32} {j : Nat} {v b n : Int32} (hk : (fk j).toNatClampNeg = 8) (hb : b.toInt = endB fk fc fd fe j) (hv : v = if n < b then n else b) (hn : n = fn j) : v.toInt = mesE fk fn fc fd fe j := by
  unfold mesE
  rw [if_pos hk, hv, imin_t, hb, hn]
theorem mesM_0 {fk fc fd fm : Nat → Int32} {j : Nat} (h : (nmT (fk j).toNatClampNeg).toInt = 0) : (1 : Int32) = mesM fk fc fd fm j := by
  unfold mesM
  rw [if_pos h]
theorem mesM_1 {fk fc fd fm : Nat → Int32} {j : Nat} {s m c : Int32} (h : (nmT (fk j).toNatClampNeg).toInt = 1) (hs : s = 1 + m) (hm : m = fm c.toNatClampNeg) (hc : c = fc j) : s = mesM fk fc fd fm j := by
  unfold mesM
  rw [if_neg (by omega), if_neg (by omega), hs, hm, hc]
theorem mesM_2 {fk fc fd fm : Nat → Int32} {j : Nat} {t s m c m2 d : Int32} (h : (nmT (fk j).toNatClampNeg).toInt = 2) (ht : t = s + m2) (hs : s = 1 + m) (hm : m = fm c.toNatClampNeg) (hc : c = fc j) (hm2 : m2 = fm d.toNatClampNeg) (hd : d = fd j) : t = mesM fk fc fd fm j := by
  unfold mesM
  rw [if_neg (by omega), if_pos h, ht, hs, hm, hm2, hc, hd]
theorem mesD_0 {fk fc fd fp : Nat → Int32} {j : Nat} (h : (nmT (fk j).toNatClampNeg).toInt = 0) : (1 : Int32) = mesD fk fc fd fp j := by
  unfold mesD
  rw [if_pos h]
theorem mesD_1 {fk fc fd fp : Nat → Int32} {j : Nat} {p c : Int32} (h : (nmT (fk j).toNatClampNeg).toInt = 1) (hp : p = fp c.toNatClampNeg) (hc : c = fc j) : p + 1 = mesD fk fc fd fp j := by
  unfold mesD
  rw [if_neg (by omega), if_neg (by omega), hp, hc]
theorem mesD_2 {fk fc fd fp : Nat → Int32} {j : Nat} {v p c p2 d : Int32} (h : (nmT (fk j).toNatClampNeg).toInt = 2) (hv : v = if p < p2 then p2 else p) (hp : p = fp c.toNatClampNeg) (hc : c = fc j) (hp2 : p2 = fp d.toNatClampNeg) (hd : d = fd j) : v + 1 = mesD fk fc fd fp j := by
  unfold mesD
  rw [if_neg (by omega), if_pos h, hv, hp, hp2, hc, hd]
  by_cases q : fp (fc j).toNatClampNeg < fp (fd j).toNatClampNeg
  · rw [if_pos q, if_pos (by rw [← fa_lt]; exact q)]
  · rw [if_neg q, if_neg (by rw [← fa_lt]; exact q)]
theorem okC.Nx {fk fc fd fe : Nat → Int32} (h : okC fk fc fd fe) {n : Nat} (hn : n ≤ 24) : okN fk fc fd n := fun j hj => ⟨(h j (by omega)).2.1, (h j (by omega)).2.2.1⟩
theorem mes_loop {fk fn fc fd fe fm fp ge gm gp : Nat → Int32} {ii i' : Int32} (hok : okC fk fc fd fe) (h0 : 0 ≤ ii.toInt ∧ ii.toInt < 24) (hi : i'.toInt = ii.toInt + 1) (a : ∀ j : Nat, (j : Int) < ii.toInt → mesP fk fn fc fd fe fm fp j) (q : mesQ fk fn fc fd fe fm fp ii ge gm gp) : ∀ j : Nat, (j : Int) < i'.toInt → mesP fk fn fc fd ge gm gp j := by
  obtain ⟨v, m, p, e1, e2, e3, h1, h2, h3⟩ := q
  have t := tn h0.1
  intro j hj
  rw [e1, e2, e3]
  exact mes_step (hok.Nx (by omega)) (fun j hj => a j (by omega)) h1 h2 h3 j (by omega)
/-- another kind, number at n: those ahead of it stay as they are -/
theorem mes_kn {fk fn fc fd fe fm fp : Nat → Int32} {n k v : Int32} (hok : okC fk fc fd fe) (hn : 0 ≤ n.toInt ∧ n.toInt ≤ 24) (a : ∀ j : Nat, (j : Int) < n.toInt → mesP fk fn fc fd fe fm fp j) : ∀ j : Nat, (j : Int) < n.toInt → mesP (upd fk n.toNatClampNeg k) (upd fn n.toNatClampNeg v) fc fd fe fm fp j := by
  have t := tn hn.1
  intro j hj
  exact mes_ahead (x := n.toNatClampNeg) (hok.Nx (by omega)) (fun j hj => by
    have i : ¬ j = n.toNatClampNeg := by omega
    simp only [upd, if_neg i]
    refine ⟨?_, ?_, ?_, ?_, ?_, ?_, ?_⟩ <;> first | rfl | trivial) (fun j hj => a j (by omega)) j (by omega)
/-- other names at x: those ahead of it stay as they are -/
theorem mes_cd {fk fn fc fd fe fm fp : Nat → Int32} {x c d : Int32} (hok : okN fk fc fd x.toNatClampNeg) (hx : 0 ≤ x.toInt) (a : ∀ j : Nat, (j : Int) < x.toInt → mesP fk fn fc fd fe fm fp j) : ∀ j : Nat, (j : Int) < x.toInt → mesP fk fn (upd fc x.toNatClampNeg c) (upd fd x.toNatClampNeg d) fe fm fp j := by
  have t := tn hx
  intro j hj
  exact mes_ahead (x := x.toNatClampNeg) hok (fun j hj => by
    have i : ¬ j = x.toNatClampNeg := by omega
    simp only [upd, if_neg i]
    refine ⟨?_, ?_, ?_, ?_, ?_, ?_, ?_⟩ <;> first | rfl | trivial) (fun j hj => a j (by omega)) j (by omega)
theorem dX2_measure_0 : decode cX2_measure 0 = .ok (.aload_n 0, 1) := by decide +kernel
theorem dX2_measure_1 : decode cX2_measure 1 = .ok (.iload_n 1, 1) := by decide +kernel
theorem dX2_measure_101 : decode cX2_measure 101 = .ok (.iload 5, 2) := by decide +kernel
theorem dX2_measure_103 : decode cX2_measure 103 = .ok (.aload_n 0, 1) := by decide +kernel
theorem dX2_measure_104 : decode cX2_measure 104 = .ok (.getfield 34, 3) := by decide +kernel
theorem dX2_measure_107 : decode cX2_measure 107 = .ok (.aload_n 0, 1) := by decide +kernel
theorem dX2_measure_108 : decode cX2_measure 108 = .ok (.getfield 25, 3) := by decide +kernel
theorem dX2_measure_11 : decode cX2_measure 11 = .ok (.istore_n 3, 1) := by decide +kernel
theorem dX2_measure_111 : decode cX2_measure 111 = .ok (.iload_n 1, 1) := by decide +kernel
theorem dX2_measure_112 : decode cX2_measure 112 = .ok (.iaload, 1) := by decide +kernel
theorem dX2_measure_113 : decode cX2_measure 113 = .ok (.iaload, 1) := by decide +kernel
theorem dX2_measure_114 : decode cX2_measure 114 = .ok (.invokestatic 62, 3) := by decide +kernel
theorem dX2_measure_117 : decode cX2_measure 117 = .ok (.istore 5, 2) := by decide +kernel
theorem dX2_measure_119 : decode cX2_measure 119 = .ok (.aload_n 0, 1) := by decide +kernel
theorem dX2_measure_12 : decode cX2_measure 12 = .ok (.iconst 1, 1) := by decide +kernel
theorem dX2_measure_120 : decode cX2_measure 120 = .ok (.iload_n 1, 1) := by decide +kernel
theorem dX2_measure_121 : decode cX2_measure 121 = .ok (.invokevirtual 51, 3) := by decide +kernel
theorem dX2_measure_124 : decode cX2_measure 124 = .ok (.getstatic 68, 3) := by decide +kernel
theorem dX2_measure_127 : decode cX2_measure 127 = .ok (.if_acmp .ne 14, 3) := by decide +kernel
theorem dX2_measure_13 : decode cX2_measure 13 = .ok (.istore 4, 2) := by decide +kernel
theorem dX2_measure_130 : decode cX2_measure 130 = .ok (.iload_n 3, 1) := by decide +kernel
theorem dX2_measure_131 : decode cX2_measure 131 = .ok (.aload_n 0, 1) := by decide +kernel
theorem dX2_measure_132 : decode cX2_measure 132 = .ok (.getfield 19, 3) := by decide +kernel
theorem dX2_measure_135 : decode cX2_measure 135 = .ok (.iload_n 1, 1) := by decide +kernel
theorem dX2_measure_136 : decode cX2_measure 136 = .ok (.iaload, 1) := by decide +kernel
theorem dX2_measure_137 : decode cX2_measure 137 = .ok (.invokestatic 72, 3) := by decide +kernel
theorem dX2_measure_140 : decode cX2_measure 140 = .ok (.istore_n 3, 1) := by decide +kernel
theorem dX2_measure_141 : decode cX2_measure 141 = .ok (.aload_n 0, 1) := by decide +kernel
theorem dX2_measure_142 : decode cX2_measure 142 = .ok (.getfield 28, 3) := by decide +kernel
theorem dX2_measure_145 : decode cX2_measure 145 = .ok (.iload_n 1, 1) := by decide +kernel
theorem dX2_measure_146 : decode cX2_measure 146 = .ok (.iload_n 3, 1) := by decide +kernel
theorem dX2_measure_147 : decode cX2_measure 147 = .ok (.iastore, 1) := by decide +kernel
theorem dX2_measure_148 : decode cX2_measure 148 = .ok (.aload_n 0, 1) := by decide +kernel
theorem dX2_measure_149 : decode cX2_measure 149 = .ok (.getfield 31, 3) := by decide +kernel
theorem dX2_measure_15 : decode cX2_measure 15 = .ok (.iconst 0, 1) := by decide +kernel
theorem dX2_measure_152 : decode cX2_measure 152 = .ok (.iload_n 1, 1) := by decide +kernel
theorem dX2_measure_153 : decode cX2_measure 153 = .ok (.iload 4, 2) := by decide +kernel
theorem dX2_measure_155 : decode cX2_measure 155 = .ok (.iastore, 1) := by decide +kernel
theorem dX2_measure_156 : decode cX2_measure 156 = .ok (.aload_n 0, 1) := by decide +kernel
theorem dX2_measure_157 : decode cX2_measure 157 = .ok (.getfield 34, 3) := by decide +kernel
theorem dX2_measure_16 : decode cX2_measure 16 = .ok (.istore 5, 2) := by decide +kernel
theorem dX2_measure_160 : decode cX2_measure 160 = .ok (.iload_n 1, 1) := by decide +kernel
theorem dX2_measure_161 : decode cX2_measure 161 = .ok (.iload 5, 2) := by decide +kernel
theorem dX2_measure_163 : decode cX2_measure 163 = .ok (.iconst 1, 1) := by decide +kernel
theorem dX2_measure_164 : decode cX2_measure 164 = .ok (.iadd, 1) := by decide +kernel
theorem dX2_measure_165 : decode cX2_measure 165 = .ok (.iastore, 1) := by decide +kernel
theorem dX2_measure_166 : decode cX2_measure 166 = .ok (.return_, 1) := by decide +kernel
theorem dX2_measure_18 : decode cX2_measure 18 = .ok (.iload_n 2, 1) := by decide +kernel
theorem dX2_measure_19 : decode cX2_measure 19 = .ok (.iconst 1, 1) := by decide +kernel
theorem dX2_measure_2 : decode cX2_measure 2 = .ok (.invokevirtual 51, 3) := by decide +kernel
theorem dX2_measure_20 : decode cX2_measure 20 = .ok (.if_icmp .lt 44, 3) := by decide +kernel
theorem dX2_measure_23 : decode cX2_measure 23 = .ok (.aload_n 0, 1) := by decide +kernel
theorem dX2_measure_24 : decode cX2_measure 24 = .ok (.getfield 28, 3) := by decide +kernel
theorem dX2_measure_27 : decode cX2_measure 27 = .ok (.aload_n 0, 1) := by decide +kernel
theorem dX2_measure_28 : decode cX2_measure 28 = .ok (.getfield 22, 3) := by decide +kernel
theorem dX2_measure_31 : decode cX2_measure 31 = .ok (.iload_n 1, 1) := by decide +kernel
theorem dX2_measure_32 : decode cX2_measure 32 = .ok (.iaload, 1) := by decide +kernel
theorem dX2_measure_33 : decode cX2_measure 33 = .ok (.iaload, 1) := by decide +kernel
theorem dX2_measure_34 : decode cX2_measure 34 = .ok (.istore_n 3, 1) := by decide +kernel
theorem dX2_measure_35 : decode cX2_measure 35 = .ok (.iload 4, 2) := by decide +kernel
theorem dX2_measure_37 : decode cX2_measure 37 = .ok (.aload_n 0, 1) := by decide +kernel
theorem dX2_measure_38 : decode cX2_measure 38 = .ok (.getfield 31, 3) := by decide +kernel
theorem dX2_measure_41 : decode cX2_measure 41 = .ok (.aload_n 0, 1) := by decide +kernel
theorem dX2_measure_42 : decode cX2_measure 42 = .ok (.getfield 22, 3) := by decide +kernel
theorem dX2_measure_45 : decode cX2_measure 45 = .ok (.iload_n 1, 1) := by decide +kernel
theorem dX2_measure_46 : decode cX2_measure 46 = .ok (.iaload, 1) := by decide +kernel
theorem dX2_measure_47 : decode cX2_measure 47 = .ok (.iaload, 1) := by decide +kernel
theorem dX2_measure_48 : decode cX2_measure 48 = .ok (.iadd, 1) := by decide +kernel
theorem dX2_measure_49 : decode cX2_measure 49 = .ok (.istore 4, 2) := by decide +kernel
theorem dX2_measure_5 : decode cX2_measure 5 = .ok (.getfield 55, 3) := by decide +kernel
theorem dX2_measure_51 : decode cX2_measure 51 = .ok (.aload_n 0, 1) := by decide +kernel
theorem dX2_measure_52 : decode cX2_measure 52 = .ok (.getfield 34, 3) := by decide +kernel
theorem dX2_measure_55 : decode cX2_measure 55 = .ok (.aload_n 0, 1) := by decide +kernel
theorem dX2_measure_56 : decode cX2_measure 56 = .ok (.getfield 22, 3) := by decide +kernel
theorem dX2_measure_59 : decode cX2_measure 59 = .ok (.iload_n 1, 1) := by decide +kernel
theorem dX2_measure_60 : decode cX2_measure 60 = .ok (.iaload, 1) := by decide +kernel
theorem dX2_measure_61 : decode cX2_measure 61 = .ok (.iaload, 1) := by decide +kernel
theorem dX2_measure_62 : decode cX2_measure 62 = .ok (.istore 5, 2) := by decide +kernel
theorem dX2_measure_64 : decode cX2_measure 64 = .ok (.iload_n 2, 1) := by decide +kernel
theorem dX2_measure_65 : decode cX2_measure 65 = .ok (.iconst 2, 1) := by decide +kernel
theorem dX2_measure_66 : decode cX2_measure 66 = .ok (.if_icmp .ne 53, 3) := by decide +kernel
theorem dX2_measure_69 : decode cX2_measure 69 = .ok (.iload_n 3, 1) := by decide +kernel
theorem dX2_measure_70 : decode cX2_measure 70 = .ok (.aload_n 0, 1) := by decide +kernel
theorem dX2_measure_71 : decode cX2_measure 71 = .ok (.getfield 28, 3) := by decide +kernel
theorem dX2_measure_74 : decode cX2_measure 74 = .ok (.aload_n 0, 1) := by decide +kernel
theorem dX2_measure_75 : decode cX2_measure 75 = .ok (.getfield 25, 3) := by decide +kernel
theorem dX2_measure_78 : decode cX2_measure 78 = .ok (.iload_n 1, 1) := by decide +kernel
theorem dX2_measure_79 : decode cX2_measure 79 = .ok (.iaload, 1) := by decide +kernel
theorem dX2_measure_8 : decode cX2_measure 8 = .ok (.istore_n 2, 1) := by decide +kernel
theorem dX2_measure_80 : decode cX2_measure 80 = .ok (.iaload, 1) := by decide +kernel
theorem dX2_measure_81 : decode cX2_measure 81 = .ok (.invokestatic 62, 3) := by decide +kernel
theorem dX2_measure_84 : decode cX2_measure 84 = .ok (.istore_n 3, 1) := by decide +kernel
theorem dX2_measure_85 : decode cX2_measure 85 = .ok (.iload 4, 2) := by decide +kernel
theorem dX2_measure_87 : decode cX2_measure 87 = .ok (.aload_n 0, 1) := by decide +kernel
theorem dX2_measure_88 : decode cX2_measure 88 = .ok (.getfield 31, 3) := by decide +kernel
theorem dX2_measure_9 : decode cX2_measure 9 = .ok (.bipush 6, 2) := by decide +kernel
theorem dX2_measure_91 : decode cX2_measure 91 = .ok (.aload_n 0, 1) := by decide +kernel
theorem dX2_measure_92 : decode cX2_measure 92 = .ok (.getfield 25, 3) := by decide +kernel
theorem dX2_measure_95 : decode cX2_measure 95 = .ok (.iload_n 1, 1) := by decide +kernel
theorem dX2_measure_96 : decode cX2_measure 96 = .ok (.iaload, 1) := by decide +kernel
theorem dX2_measure_97 : decode cX2_measure 97 = .ok (.iaload, 1) := by decide +kernel
theorem dX2_measure_98 : decode cX2_measure 98 = .ok (.iadd, 1) := by decide +kernel
theorem dX2_measure_99 : decode cX2_measure 99 = .ok (.istore 4, 2) := by decide +kernel
set_option maxRecDepth 20000 in
theorem ggX2_measure_X2_kindOf : GoodIn wsX2_measure wsX2_kindOf := goodIn_r _ [20, 21, 22, 23, 24, 25, 26, 27, 28, 29] rfl (by decide +kernel)
set_option maxRecDepth 20000 in
theorem gX2_measure_X2_kindOf : GoodIn wsX2_measure (wsV RX2 51 RX2 yX2_kindOf wsX2_kindOf) := goodIn_app (goodIn_r _ [16, 17, 18, 19] rfl (by decide +kernel)) ggX2_measure_X2_kindOf
theorem hv_X2_kindOf : yX2_kindOf.cls = RX2 ∧ yX2_kindOf.cls ≠ "java/lang/invoke/MethodHandle" ∧ yX2_kindOf.cls ≠ "java/lang/invoke/VarHandle" ∧ (parseMethodDescriptor yX2_kindOf.desc).map (fun d => d.parameters.length) = some 1 := by decide +kernel
set_option maxRecDepth 20000 in
theorem in_X2_measure_X2 : ∀ w ∈ wsX20, w ∈ wsX2_measure := sub_r [22, 23, 24, 25, 26, 27, 28, 29] rfl
set_option maxHeartbeats 4000000 in
set_option maxRecDepth 100000 in
theorem c_X2_measure (l : Launch) (D : va_G) (T : Nat → ClassId) (ad sa av : Nat → Nat) (ta : Nat) (sz : Nat) (h0 : Nat) (n0 : Int32) (c1 : Nat) (c2 : Nat) (c3 : Nat) (c4 : Nat) (c5 : Nat) (c6 : Nat) (c7 : Nat) (f1 : Nat → Int32) (f2 : Nat → Int32) (f3 : Nat → Int32) (f4 : Nat → Int32) (f5 : Nat → Int32) (f6 : Nat → Int32) (f7 : Nat → Int32) (x1 : Int32) (hx1 : 0 ≤ x1.toInt ∧ x1.toInt < 24) (hok : okC f1 f3 f4 f5) : Met l yX2_measure wsX2_measure ({ frames := 1, cells := 0, slots := 0, locals := 40 }) (pWk [.ref h0, .int x1] D T [(h0, .inr (1, [.int n0, .ref c1, .ref c2, .ref c3, .ref c4, .ref c5, .ref c6, .ref c7])), (c1, .inl (T 0, 24, .inl f1)), (c2, .inl (T 0, 24, .inl f2)), (c3, .inl (T 0, 24, .inl f3)), (c4, .inl (T 0, 24, .inl f4)), (c5, .inl (T 0, 24, .inl f5)), (c6, .inl (T 0, 24, .inl f6)), (c7, .inl (T 0, 24, .inl f7))] sz ad sa av ta) (va_Qv (fun (u : (Nat → Int32) × (Nat → Int32) × (Nat → Int32)) => (∀ j : Nat, j < 24 → (u.1 j).toInt ≤ 6) ∧ mesQ f1 f2 f3 f4 f5 f6 f7 x1 u.1 u.2.1 u.2.2) (bW D (va_A [(h0, .inr (1, [.int n0, .ref c1, .ref c2, .ref c3, .ref c4, .ref c5, .ref c6, .ref c7])), (c1, .inl (T 0, 24, .inl f1)), (c2, .inl (T 0, 24, .inl f2)), (c3, .inl (T 0, 24, .inl f3)), (c4, .inl (T 0, 24, .inl f4)), (c5, .inl (T 0, 24, .inl f5)), (c6, .inl (T 0, 24, .inl f6)), (c7, .inl (T 0, 24, .inl f7))] sz) (fun (u : (Nat → Int32) × (Nat → Int32) × (Nat → Int32)) => [(h0, .inr (1, [.int n0, .ref c1, .ref c2, .ref c3, .ref c4, .ref c5, .ref c6, .ref c7])), (c1, .inl (T 0, 24, .inl f1)), (c2, .inl (T 0, 24, .inl f2)), (c3, .inl (T 0, 24, .inl f3)), (c4, .inl (T 0, 24, .inl f4)), (c5, .inl (T 0, 24, .inl u.1)), (c6, .inl (T 0, 24, .inl u.2.1)), (c7, .inl (T 0, 24, .inl u.2.2))])) (va_A [(h0, .inr (1, [.int n0, .ref c1, .ref c2, .ref c3, .ref c4, .ref c5, .ref c6, .ref c7])), (c1, .inl (T 0, 24, .inl f1)), (c2, .inl (T 0, 24, .inl f2)), (c3, .inl (T 0, 24, .inl f3)), (c4, .inl (T 0, 24, .inl f4)), (c5, .inl (T 0, 24, .inl f5)), (c6, .inl (T 0, 24, .inl f6)), (c7, .inl (T 0, 24, .inl f7))] sz)) 0 0 (va_A [(h0, .inr (1, [.int n0, .ref c1, .ref c2, .ref c3, .ref c4, .ref c5, .ref c6, .ref c7])), (c1, .inl (T 0, 24, .inl f1)), (c2, .inl (T 0, 24, .inl f2)), (c3, .inl (T 0, 24, .inl f3)), (c4, .inl (T 0, 24, .inl f4)), (c5, .inl (T 0, 24, .inl f5)), (c6, .inl (T 0, 24, .inl f6)), (c7, .inl (T 0, 24, .inl f7))] sz) := by
  refine Met.ofW (cc := cX2_measure) (maxL := 6) (ret := none) (by decide +kernel) rfl ?_
  intro p e s m args below meth c s₁ B hml hv
  obtain ⟨rfl, hsz, hP, hE, hD0, hV⟩ := hv
  have hx := B.exec
  have hb := B.bytes
  have hr := B.returns
  have hts := atoms_spec (ws := wsX2_measure) B.pre
  have hown : s.vm.findClass RX2 = some m.cls := findClass_of_methodNamed B.named
  have hlocks := B.notSynchronized
  subst hsz
  have hD := hD0.self (sz := s.heap.size)
  generalize hAe : va_A [(h0, .inr (1, [.int n0, .ref c1, .ref c2, .ref c3, .ref c4, .ref c5, .ref c6, .ref c7])), (c1, .inl (T 0, 24, .inl f1)), (c2, .inl (T 0, 24, .inl f2)), (c3, .inl (T 0, 24, .inl f3)), (c4, .inl (T 0, 24, .inl f4)), (c5, .inl (T 0, 24, .inl f5)), (c6, .inl (T 0, 24, .inl f6)), (c7, .inl (T 0, 24, .inl f7))] s.heap.size = A at hD hV ⊢
  have hA : ∀ q : Nat, s.heap.size ≤ q → A q := fun q h => by rw [← hAe]; exact Or.inr h
  have hS : va_S A s.heap s.heap [] := va_S.rf
  have hP : va_P D vwCl [(h0, .inr (1, [.int n0, .ref c1, .ref c2, .ref c3, .ref c4, .ref c5, .ref c6, .ref c7])), (c1, .inl (T 0, 24, .inl f1)), (c2, .inl (T 0, 24, .inl f2)), (c3, .inl (T 0, 24, .inl f3)), (c4, .inl (T 0, 24, .inl f4)), (c5, .inl (T 0, 24, .inl f5)), (c6, .inl (T 0, 24, .inl f6)), (c7, .inl (T 0, 24, .inl f7))] s.heap := hP
  have hl := lv_entry ([.ref h0, .int x1]) (n := 6) (Nat.le_of_ble_eq_true rfl)
  rw [lg_entry_eq]
  generalize (lg_sl ([.ref h0, .int x1]) ++ List.replicate (6 - (lg_sl ([.ref h0, .int x1])).length) Slot.unset).toArray = ls at hl ⊢
  have hl : lv_has ls 6 [(0, .ref h0), (1, .int x1)] := hl
  clear hD0
  refine lv_aload_n hx hb dX2_measure_0 rfl (lv_at hl 0 rfl) ?_
  refine lv_iload_n hx hb dX2_measure_1 rfl (lv_at hl 1 rfl) ?_
  refine va_cse (W.runV (As := [.int x1]) (rest := []) ⟨hx, hb, hml, hown, hts⟩ (c_X2_kindOf l D T ad sa av ta h0 [.int n0, .ref c1, .ref c2, .ref c3, .ref c4, .ref c5, .ref c6, .ref c7] c1 f1 x1 rfl (by omega) ((hok _ (in24 (x := x1) (by omega)).1).1)) (cwV 1 hts gX2_measure_X2_kindOf rfl rfl rfl hv_X2_kindOf ⟨Nat.le_of_ble_eq_true rfl, Nat.le_of_ble_eq_true rfl⟩) (pRk_V (q := (RX2, TX2, 8)) (ci := 1) (q0 := 0) hP hE hV hS rfl rfl [0, 1] rfl) rfl rfl hl.1 rfl (lv_room (Nat.le_of_ble_eq_true rfl)) dX2_measure_2 ⟨Nat.le_of_ble_eq_true rfl, Nat.le_of_ble_eq_true rfl⟩) (fun r_1 hr_1 => ?_)
  subst hr_1
  refine W.eq (g2 := F0 m 5 ls [.ref (ad ((f1 (x1.toNatClampNeg)).toNatClampNeg))]) rfl ?_
  refine va_getE (i := ((f1 (x1.toNatClampNeg)).toNatClampNeg)) hx hb hV.1.1 (in13c ((hok _ (in24 (x := x1) (by omega)).1).1)) hS hown (q := kdQ "names" [0, 0, 1, 1, 1, 2, 2, 2, 1, 2, 1, 1, 2]) (List.mem_of_getElem? (i := 0) rfl) (hts (.fieldLink RX2 55 "ClauseBook$Kind" "names" "I") (List.mem_of_getElem? (i := 1) rfl)) (fun _ h9 => h9) dX2_measure_5 ?_
  refine W.eq (g2 := F0 m 8 ls [.int (nmT ((f1 (x1.toNatClampNeg)).toNatClampNeg))]) rfl ?_
  refine lv_topi (fun z_2 ez_2 => ?_)
  have hnm : 0 ≤ z_2.toInt ∧ z_2.toInt ≤ 2 := by rw [ez_2]; exact nmT_in _
  refine lv_istore_n (lv' := [(2, .int z_2), (0, .ref h0), (1, .int x1)]) hx hb dX2_measure_8 rfl hl (by decide +kernel) rfl (fun ls hl => ?_)
  refine lv_bipush (v := 6) hx hb dX2_measure_9 (by decide +kernel) ?_
  refine lv_istore_n (lv' := [(3, .int 6), (2, .int z_2), (0, .ref h0), (1, .int x1)]) hx hb dX2_measure_11 rfl hl (by decide +kernel) rfl (fun ls hl => ?_)
  refine lv_iconst (v := 1) hx hb dX2_measure_12 (by decide +kernel) ?_
  refine lv_istore (lv' := [(4, .int 1), (3, .int 6), (2, .int z_2), (0, .ref h0), (1, .int x1)]) hx hb dX2_measure_13 hl (by decide +kernel) rfl (fun ls hl => ?_)
  refine lv_iconst (v := 0) hx hb dX2_measure_15 (by decide +kernel) ?_
  refine lv_istore (lv' := [(5, .int 0), (4, .int 1), (3, .int 6), (2, .int z_2), (0, .ref h0), (1, .int x1)]) hx hb dX2_measure_16 hl (by decide +kernel) rfl (fun ls hl => ?_)
  refine lv_iload_n hx hb dX2_measure_18 rfl (lv_at hl 3 rfl) ?_
  refine lv_iconst (v := 1) hx hb dX2_measure_19 (by decide +kernel) ?_
  refine lv_icmp_lt (tgt := 64) hx hb dX2_measure_20 (by decide +kernel) (fun c_3 => ?_) (fun c_3 => ?_)
  · rw [fa_lt] at c_3
    try rw [ti_1] at c_3
    refine lv_iload_n hx hb dX2_measure_64 rfl (lv_at hl 3 rfl) ?_
    refine lv_iconst (v := 2) hx hb dX2_measure_65 (by decide +kernel) ?_
    refine lv_icmp_ne (tgt := 119) hx hb dX2_measure_66 (by decide +kernel) (fun c_4 => ?_) (fun c_4 => ?_)
    · rw [fa_eq] at c_4
      try rw [ti_2] at c_4
      refine lv_aload_n hx hb dX2_measure_119 rfl (lv_at hl 4 rfl) ?_
      refine lv_iload_n hx hb dX2_measure_120 rfl (lv_at hl 5 rfl) ?_
      refine va_cse (W.runV (As := [.int x1]) (rest := []) ⟨hx, hb, hml, hown, hts⟩ (c_X2_kindOf l D T ad sa av ta h0 [.int n0, .ref c1, .ref c2, .ref c3, .ref c4, .ref c5, .ref c6, .ref c7] c1 f1 x1 rfl (by omega) ((hok _ (in24 (x := x1) (by omega)).1).1)) (cwV 1 hts gX2_measure_X2_kindOf rfl rfl rfl hv_X2_kindOf ⟨Nat.le_of_ble_eq_true rfl, Nat.le_of_ble_eq_true rfl⟩) (pRk_V (q := (RX2, TX2, 8)) (ci := 1) (q0 := 0) hP hE hV hS rfl rfl [0, 1] rfl) rfl rfl hl.1 rfl (lv_room (Nat.le_of_ble_eq_true rfl)) dX2_measure_121 ⟨Nat.le_of_ble_eq_true rfl, Nat.le_of_ble_eq_true rfl⟩) (fun r_5 hr_5 => ?_)
      subst hr_5
      refine W.eq (g2 := F0 m 124 ls [.ref (ad ((f1 (x1.toNatClampNeg)).toNatClampNeg))]) rfl ?_
      refine va_gets (v := .ref (ad 8)) hx hb (hV.1.1.1 8 (by decide +kernel)).1 hS hown (hts (.fieldLink RX2 68 "ClauseBook$Kind" "UNTIL" "LClauseBook$Kind;") (List.mem_of_getElem? (i := 11) rfl)) (fun _ h9 => h9) dX2_measure_124 ?_
      refine lv_acmp_ne (rx := some (ad ((f1 (x1.toNatClampNeg)).toNatClampNeg))) (ry := some (ad 8)) (tgt := 141) hx hb dX2_measure_127 (by decide +kernel) (fun c_6 => ?_) (fun c_6 => ?_)
      · refine lv_aload_n hx hb dX2_measure_141 rfl (lv_at hl 4 rfl) ?_
        refine va_get (D := D) (ci := 1) (v := .ref c5) (C := RX2) (T := TX2) (N := 8) hx hb hts in_X2_measure_X2 hown hE.1 hP 0 rfl rfl 5 (by decide +kernel) (hts (.fieldLink RX2 28 "ClauseBook$Clauses" "end" "[I") (List.mem_of_getElem? (i := 2) rfl)) (fun _ h9 => h9) rfl dX2_measure_142 ?_
        refine lv_iload_n hx hb dX2_measure_145 rfl (lv_at hl 5 rfl) ?_
        refine lv_iload_n hx hb dX2_measure_146 rfl (lv_at hl 2 rfl) ?_
        refine va_iast hx hb hE.1 hP hD hS 5 0 rfl rfl (by rw [vp_in_iff]; first | omega | (subst_vars; omega)) dX2_measure_147 (fun H locs hP hD hS => ?_)
        obtain ⟨hP, hD⟩ := wPD [(h0, .inr (1, [.int n0, .ref c1, .ref c2, .ref c3, .ref c4, .ref c5, .ref c6, .ref c7])), (c1, .inl (T 0, 24, .inl f1)), (c2, .inl (T 0, 24, .inl f2)), (c3, .inl (T 0, 24, .inl f3)), (c4, .inl (T 0, 24, .inl f4)), (c5, .inl (T 0, 24, .inl (upd f5 (x1.toNatClampNeg) 6))), (c6, .inl (T 0, 24, .inl f6)), (c7, .inl (T 0, 24, .inl f7))] hP hD rfl
        refine lv_aload_n hx hb dX2_measure_148 rfl (lv_at hl 4 rfl) ?_
        refine va_get (D := D) (ci := 1) (v := .ref c6) (C := RX2) (T := TX2) (N := 8) hx hb hts in_X2_measure_X2 hown hE.1 hP 0 rfl rfl 6 (by decide +kernel) (hts (.fieldLink RX2 31 "ClauseBook$Clauses" "made" "[I") (List.mem_of_getElem? (i := 4) rfl)) (fun _ h9 => h9) rfl dX2_measure_149 ?_
        refine lv_iload_n hx hb dX2_measure_152 rfl (lv_at hl 5 rfl) ?_
        refine lv_iload hx hb dX2_measure_153 (lv_at hl 1 rfl) ?_
        refine va_iast hx hb hE.1 hP hD hS 6 0 rfl rfl (by rw [vp_in_iff]; first | omega | (subst_vars; omega)) dX2_measure_155 (fun H locs hP hD hS => ?_)
        obtain ⟨hP, hD⟩ := wPD [(h0, .inr (1, [.int n0, .ref c1, .ref c2, .ref c3, .ref c4, .ref c5, .ref c6, .ref c7])), (c1, .inl (T 0, 24, .inl f1)), (c2, .inl (T 0, 24, .inl f2)), (c3, .inl (T 0, 24, .inl f3)), (c4, .inl (T 0, 24, .inl f4)), (c5, .inl (T 0, 24, .inl (upd f5 (x1.toNatClampNeg) 6))), (c6, .inl (T 0, 24, .inl (upd f6 (x1.toNatClampNeg) 1))), (c7, .inl (T 0, 24, .inl f7))] hP hD rfl
        refine lv_aload_n hx hb dX2_measure_156 rfl (lv_at hl 4 rfl) ?_
        refine va_get (D := D) (ci := 1) (v := .ref c7) (C := RX2) (T := TX2) (N := 8) hx hb hts in_X2_measure_X2 hown hE.1 hP 0 rfl rfl 7 (by decide +kernel) (hts (.fieldLink RX2 34 "ClauseBook$Clauses" "deep" "[I") (List.mem_of_getElem? (i := 5) rfl)) (fun _ h9 => h9) rfl dX2_measure_157 ?_
        refine lv_iload_n hx hb dX2_measure_160 rfl (lv_at hl 5 rfl) ?_
        refine lv_iload hx hb dX2_measure_161 (lv_at hl 0 rfl) ?_
        refine lv_iconst (v := 1) hx hb dX2_measure_163 (by decide +kernel) ?_
        refine lv_iadd hx hb dX2_measure_164 ?_
        refine lv_topi (fun z_7 ez_7 => ?_)
        obtain rfl : z_7 = 1 := ez_7.trans (by decide +kernel)
        refine va_iast hx hb hE.1 hP hD hS 7 0 rfl rfl (by rw [vp_in_iff]; first | omega | (subst_vars; omega)) dX2_measure_165 (fun H locs hP hD hS => ?_)
        obtain ⟨hP, hD⟩ := wPD [(h0, .inr (1, [.int n0, .ref c1, .ref c2, .ref c3, .ref c4, .ref c5, .ref c6, .ref c7])), (c1, .inl (T 0, 24, .inl f1)), (c2, .inl (T 0, 24, .inl f2)), (c3, .inl (T 0, 24, .inl f3)), (c4, .inl (T 0, 24, .inl f4)), (c5, .inl (T 0, 24, .inl (upd f5 (x1.toNatClampNeg) 6))), (c6, .inl (T 0, 24, .inl (upd f6 (x1.toNatClampNeg) 1))), (c7, .inl (T 0, 24, .inl (upd f7 (x1.toNatClampNeg) 1)))] hP hD rfl
        exact W.vret hx hb hr (fun t ht hW => ⟨⟨((upd f5 (x1.toNatClampNeg) 6), (upd f6 (x1.toNatClampNeg) 1), (upd f7 (x1.toNatClampNeg) 1)), rfl, ⟨(fun j hj => by
        show ((upd f5 (x1.toNatClampNeg) 6) j).toInt ≤ 6
        by_cases hjx : j = x1.toNatClampNeg
        · simp only [upd, if_pos hjx]; first | omega | decide
        · simp only [upd, if_neg hjx]; exact (hok j hj).2.2.2), ⟨_, _, _, rfl, rfl, rfl, (mesE_no (fun e9 => c_6 (by rw [e9])) (endB_0 (by rw [← ez_2]; omega))), (mesM_0 (by rw [← ez_2]; omega)), (mesD_0 (by rw [← ez_2]; omega))⟩⟩, by rw [ht]; exact hP.sub [0, 1, 2, 3, 4, 5, 6, 7] rfl, hD.sub [0, 1, 2, 3, 4, 5, 6, 7] (by decide +kernel) rfl⟩, hS.F ht⟩) hS.2.2 dX2_measure_166
      · refine lv_iload_n hx hb dX2_measure_130 rfl (lv_at hl 2 rfl) ?_
        refine lv_aload_n hx hb dX2_measure_131 rfl (lv_at hl 4 rfl) ?_
        refine va_get (D := D) (ci := 1) (v := .ref c2) (C := RX2) (T := TX2) (N := 8) hx hb hts in_X2_measure_X2 hown hE.1 hP 0 rfl rfl 2 (by decide +kernel) (hts (.fieldLink RX2 19 "ClauseBook$Clauses" "n" "[I") (List.mem_of_getElem? (i := 12) rfl)) (fun _ h9 => h9) rfl dX2_measure_132 ?_
        refine lv_iload_n hx hb dX2_measure_135 rfl (lv_at hl 5 rfl) ?_
        refine va_iald hx hb hE.1 hP 2 0 rfl rfl (by rw [vp_in_iff]; first | omega | (subst_vars; omega)) dX2_measure_136 ?_
        refine lv_topi (fun z_8 ez_8 => ?_)
        refine va_mmin hx hb (hml.trans hl.1.symm) hown (hts (.methodLink RX2 72 Lib.Math.min.name) (List.mem_of_getElem? (i := 13) rfl)) (hts (.static Lib.Math.min.name) (List.mem_of_getElem? (i := 14) rfl)) (hts (.initialized "java/lang/Math") (List.mem_of_getElem? (i := 9) rfl)) (hts (.code Lib.Math.min.name Lib.Math.min.code 2 (some .int)) (List.mem_of_getElem? (i := 15) rfl)) (Nat.le_of_ble_eq_true rfl) (Nat.le_of_ble_eq_true rfl) (Nat.le_of_ble_eq_true rfl) (Nat.le_of_ble_eq_true rfl) dX2_measure_137 ?_
        refine lv_topi (fun z_9 ez_9 => ?_)
        have h6z_9 : z_9.toInt ≤ 6 := by
          rw [ez_9]
          have h66 := ti_6
          split
          · rename_i h
            rw [fa_lt] at h
            omega
          · omega
        refine lv_istore_n (lv' := [(3, .int z_9), (5, .int 0), (4, .int 1), (2, .int z_2), (0, .ref h0), (1, .int x1)]) hx hb dX2_measure_140 rfl hl (by decide +kernel) rfl (fun ls hl => ?_)
        refine lv_aload_n hx hb dX2_measure_141 rfl (lv_at hl 4 rfl) ?_
        refine va_get (D := D) (ci := 1) (v := .ref c5) (C := RX2) (T := TX2) (N := 8) hx hb hts in_X2_measure_X2 hown hE.1 hP 0 rfl rfl 5 (by decide +kernel) (hts (.fieldLink RX2 28 "ClauseBook$Clauses" "end" "[I") (List.mem_of_getElem? (i := 2) rfl)) (fun _ h9 => h9) rfl dX2_measure_142 ?_
        refine lv_iload_n hx hb dX2_measure_145 rfl (lv_at hl 5 rfl) ?_
        refine lv_iload_n hx hb dX2_measure_146 rfl (lv_at hl 0 rfl) ?_
        refine va_iast hx hb hE.1 hP hD hS 5 0 rfl rfl (by rw [vp_in_iff]; first | omega | (subst_vars; omega)) dX2_measure_147 (fun H locs hP hD hS => ?_)
        obtain ⟨hP, hD⟩ := wPD [(h0, .inr (1, [.int n0, .ref c1, .ref c2, .ref c3, .ref c4, .ref c5, .ref c6, .ref c7])), (c1, .inl (T 0, 24, .inl f1)), (c2, .inl (T 0, 24, .inl f2)), (c3, .inl (T 0, 24, .inl f3)), (c4, .inl (T 0, 24, .inl f4)), (c5, .inl (T 0, 24, .inl (upd f5 (x1.toNatClampNeg) z_9))), (c6, .inl (T 0, 24, .inl f6)), (c7, .inl (T 0, 24, .inl f7))] hP hD rfl
        refine lv_aload_n hx hb dX2_measure_148 rfl (lv_at hl 4 rfl) ?_
        refine va_get (D := D) (ci := 1) (v := .ref c6) (C := RX2) (T := TX2) (N := 8) hx hb hts in_X2_measure_X2 hown hE.1 hP 0 rfl rfl 6 (by decide +kernel) (hts (.fieldLink RX2 31 "ClauseBook$Clauses" "made" "[I") (List.mem_of_getElem? (i := 4) rfl)) (fun _ h9 => h9) rfl dX2_measure_149 ?_
        refine lv_iload_n hx hb dX2_measure_152 rfl (lv_at hl 5 rfl) ?_
        refine lv_iload hx hb dX2_measure_153 (lv_at hl 2 rfl) ?_
        refine va_iast hx hb hE.1 hP hD hS 6 0 rfl rfl (by rw [vp_in_iff]; first | omega | (subst_vars; omega)) dX2_measure_155 (fun H locs hP hD hS => ?_)
        obtain ⟨hP, hD⟩ := wPD [(h0, .inr (1, [.int n0, .ref c1, .ref c2, .ref c3, .ref c4, .ref c5, .ref c6, .ref c7])), (c1, .inl (T 0, 24, .inl f1)), (c2, .inl (T 0, 24, .inl f2)), (c3, .inl (T 0, 24, .inl f3)), (c4, .inl (T 0, 24, .inl f4)), (c5, .inl (T 0, 24, .inl (upd f5 (x1.toNatClampNeg) z_9))), (c6, .inl (T 0, 24, .inl (upd f6 (x1.toNatClampNeg) 1))), (c7, .inl (T 0, 24, .inl f7))] hP hD rfl
        refine lv_aload_n hx hb dX2_measure_156 rfl (lv_at hl 4 rfl) ?_
        refine va_get (D := D) (ci := 1) (v := .ref c7) (C := RX2) (T := TX2) (N := 8) hx hb hts in_X2_measure_X2 hown hE.1 hP 0 rfl rfl 7 (by decide +kernel) (hts (.fieldLink RX2 34 "ClauseBook$Clauses" "deep" "[I") (List.mem_of_getElem? (i := 5) rfl)) (fun _ h9 => h9) rfl dX2_measure_157 ?_
        refine lv_iload_n hx hb dX2_measure_160 rfl (lv_at hl 5 rfl) ?_
        refine lv_iload hx hb dX2_measure_161 (lv_at hl 1 rfl) ?_
        refine lv_iconst (v := 1) hx hb dX2_measure_163 (by decide +kernel) ?_
        refine lv_iadd hx hb dX2_measure_164 ?_
        refine lv_topi (fun z_10 ez_10 => ?_)
        obtain rfl : z_10 = 1 := ez_10.trans (by decide +kernel)
        refine va_iast hx hb hE.1 hP hD hS 7 0 rfl rfl (by rw [vp_in_iff]; first | omega | (subst_vars; omega)) dX2_measure_165 (fun H locs hP hD hS => ?_)
        obtain ⟨hP, hD⟩ := wPD [(h0, .inr (1, [.int n0, .ref c1, .ref c2, .ref c3, .ref c4, .ref c5, .ref c6, .ref c7])), (c1, .inl (T 0, 24, .inl f1)), (c2, .inl (T 0, 24, .inl f2)), (c3, .inl (T 0, 24, .inl f3)), (c4, .inl (T 0, 24, .inl f4)), (c5, .inl (T 0, 24, .inl (upd f5 (x1.toNatClampNeg) z_9))), (c6, .inl (T 0, 24, .inl (upd f6 (x1.toNatClampNeg) 1))), (c7, .inl (T 0, 24, .inl (upd f7 (x1.toNatClampNeg) 1)))] hP hD rfl
        exact W.vret hx hb hr (fun t ht hW => ⟨⟨((upd f5 (x1.toNatClampNeg) z_9), (upd f6 (x1.toNatClampNeg) 1), (upd f7 (x1.toNatClampNeg) 1)), rfl, ⟨(fun j hj => by
        show ((upd f5 (x1.toNatClampNeg) z_9) j).toInt ≤ 6
        by_cases hjx : j = x1.toNatClampNeg
        · simp only [upd, if_pos hjx]; first | omega | decide
        · simp only [upd, if_neg hjx]; exact (hok j hj).2.2.2), ⟨_, _, _, rfl, rfl, rfl, (mesE_yes (hV.1.1.2 _ 8 (in13c ((hok _ (in24 (x := x1) (by omega)).1).1)) (by decide +kernel) (Option.some.inj c_6)) (endB_0 (by rw [← ez_2]; omega)) ez_9 ez_8), (mesM_0 (by rw [← ez_2]; omega)), (mesD_0 (by rw [← ez_2]; omega))⟩⟩, by rw [ht]; exact hP.sub [0, 1, 2, 3, 4, 5, 6, 7] rfl, hD.sub [0, 1, 2, 3, 4, 5, 6, 7] (by decide +kernel) rfl⟩, hS.F ht⟩) hS.2.2 dX2_measure_166
    · rw [fa_eq] at c_4
      try rw [ti_2] at c_4
      have hd9 : 0 ≤ (f4 (x1.toNatClampNeg)).toInt ∧ (f4 (x1.toNatClampNeg)).toInt < x1.toInt := by
        have h := (hok _ (in24 (x := x1) (by omega)).1).2.2.1 (by rw [← ez_2]; omega)
        have h2 := (in24 (x := x1) (by omega)).2
        omega
      refine lv_iload_n hx hb dX2_measure_69 rfl (lv_at hl 2 rfl) ?_
      refine lv_aload_n hx hb dX2_measure_70 rfl (lv_at hl 4 rfl) ?_
      refine va_get (D := D) (ci := 1) (v := .ref c5) (C := RX2) (T := TX2) (N := 8) hx hb hts in_X2_measure_X2 hown hE.1 hP 0 rfl rfl 5 (by decide +kernel) (hts (.fieldLink RX2 28 "ClauseBook$Clauses" "end" "[I") (List.mem_of_getElem? (i := 2) rfl)) (fun _ h9 => h9) rfl dX2_measure_71 ?_
      refine lv_aload_n hx hb dX2_measure_74 rfl (lv_at hl 4 rfl) ?_
      refine va_get (D := D) (ci := 1) (v := .ref c4) (C := RX2) (T := TX2) (N := 8) hx hb hts in_X2_measure_X2 hown hE.1 hP 0 rfl rfl 4 (by decide +kernel) (hts (.fieldLink RX2 25 "ClauseBook$Clauses" "d" "[I") (List.mem_of_getElem? (i := 6) rfl)) (fun _ h9 => h9) rfl dX2_measure_75 ?_
      refine lv_iload_n hx hb dX2_measure_78 rfl (lv_at hl 5 rfl) ?_
      refine va_iald hx hb hE.1 hP 4 0 rfl rfl (by rw [vp_in_iff]; first | omega | (subst_vars; omega)) dX2_measure_79 ?_
      refine lv_topi (fun z_11 ez_11 => ?_)
      refine va_iald hx hb hE.1 hP 5 0 rfl rfl (by rw [vp_in_iff]; first | omega | (subst_vars; omega)) dX2_measure_80 ?_
      refine lv_topi (fun z_12 ez_12 => ?_)
      have h6z_12 : z_12.toInt ≤ 6 := by
        rw [ez_12]
        exact (hok _ (in24 (by subst_vars; omega)).1).2.2.2
      refine va_mmax hx hb (hml.trans hl.1.symm) hown (hts (.methodLink RX2 62 Lib.Math.max.name) (List.mem_of_getElem? (i := 7) rfl)) (hts (.static Lib.Math.max.name) (List.mem_of_getElem? (i := 8) rfl)) (hts (.initialized "java/lang/Math") (List.mem_of_getElem? (i := 9) rfl)) (hts (.code Lib.Math.max.name Lib.Math.max.code 2 (some .int)) (List.mem_of_getElem? (i := 10) rfl)) (Nat.le_of_ble_eq_true rfl) (Nat.le_of_ble_eq_true rfl) (Nat.le_of_ble_eq_true rfl) (Nat.le_of_ble_eq_true rfl) dX2_measure_81 ?_
      refine lv_topi (fun z_13 ez_13 => ?_)
      have h6z_13 : z_13.toInt ≤ 6 := by
        rw [ez_13]
        have h66 := ti_6
        split
        · rename_i h
          rw [fa_lt] at h
          omega
        · omega
      refine lv_istore_n (lv' := [(3, .int z_13), (5, .int 0), (4, .int 1), (2, .int z_2), (0, .ref h0), (1, .int x1)]) hx hb dX2_measure_84 rfl hl (by decide +kernel) rfl (fun ls hl => ?_)
      refine lv_iload hx hb dX2_measure_85 (lv_at hl 2 rfl) ?_
      refine lv_aload_n hx hb dX2_measure_87 rfl (lv_at hl 4 rfl) ?_
      refine va_get (D := D) (ci := 1) (v := .ref c6) (C := RX2) (T := TX2) (N := 8) hx hb hts in_X2_measure_X2 hown hE.1 hP 0 rfl rfl 6 (by decide +kernel) (hts (.fieldLink RX2 31 "ClauseBook$Clauses" "made" "[I") (List.mem_of_getElem? (i := 4) rfl)) (fun _ h9 => h9) rfl dX2_measure_88 ?_
      refine lv_aload_n hx hb dX2_measure_91 rfl (lv_at hl 4 rfl) ?_
      refine va_get (D := D) (ci := 1) (v := .ref c4) (C := RX2) (T := TX2) (N := 8) hx hb hts in_X2_measure_X2 hown hE.1 hP 0 rfl rfl 4 (by decide +kernel) (hts (.fieldLink RX2 25 "ClauseBook$Clauses" "d" "[I") (List.mem_of_getElem? (i := 6) rfl)) (fun _ h9 => h9) rfl dX2_measure_92 ?_
      refine lv_iload_n hx hb dX2_measure_95 rfl (lv_at hl 5 rfl) ?_
      refine va_iald hx hb hE.1 hP 4 0 rfl rfl (by rw [vp_in_iff]; first | omega | (subst_vars; omega)) dX2_measure_96 ?_
      refine lv_topi (fun z_14 ez_14 => ?_)
      refine va_iald hx hb hE.1 hP 6 0 rfl rfl (by rw [vp_in_iff]; first | omega | (subst_vars; omega)) dX2_measure_97 ?_
      refine lv_topi (fun z_15 ez_15 => ?_)
      refine lv_iadd hx hb dX2_measure_98 ?_
      refine lv_topi (fun z_16 ez_16 => ?_)
      refine lv_istore (lv' := [(4, .int z_16), (3, .int z_13), (5, .int 0), (2, .int z_2), (0, .ref h0), (1, .int x1)]) hx hb dX2_measure_99 hl (by decide +kernel) rfl (fun ls hl => ?_)
      refine lv_iload hx hb dX2_measure_101 (lv_at hl 2 rfl) ?_
      refine lv_aload_n hx hb dX2_measure_103 rfl (lv_at hl 4 rfl) ?_
      refine va_get (D := D) (ci := 1) (v := .ref c7) (C := RX2) (T := TX2) (N := 8) hx hb hts in_X2_measure_X2 hown hE.1 hP 0 rfl rfl 7 (by decide +kernel) (hts (.fieldLink RX2 34 "ClauseBook$Clauses" "deep" "[I") (List.mem_of_getElem? (i := 5) rfl)) (fun _ h9 => h9) rfl dX2_measure_104 ?_
      refine lv_aload_n hx hb dX2_measure_107 rfl (lv_at hl 4 rfl) ?_
      refine va_get (D := D) (ci := 1) (v := .ref c4) (C := RX2) (T := TX2) (N := 8) hx hb hts in_X2_measure_X2 hown hE.1 hP 0 rfl rfl 4 (by decide +kernel) (hts (.fieldLink RX2 25 "ClauseBook$Clauses" "d" "[I") (List.mem_of_getElem? (i := 6) rfl)) (fun _ h9 => h9) rfl dX2_measure_108 ?_
      refine lv_iload_n hx hb dX2_measure_111 rfl (lv_at hl 5 rfl) ?_
      refine va_iald hx hb hE.1 hP 4 0 rfl rfl (by rw [vp_in_iff]; first | omega | (subst_vars; omega)) dX2_measure_112 ?_
      refine lv_topi (fun z_17 ez_17 => ?_)
      refine va_iald hx hb hE.1 hP 7 0 rfl rfl (by rw [vp_in_iff]; first | omega | (subst_vars; omega)) dX2_measure_113 ?_
      refine lv_topi (fun z_18 ez_18 => ?_)
      refine va_mmax hx hb (hml.trans hl.1.symm) hown (hts (.methodLink RX2 62 Lib.Math.max.name) (List.mem_of_getElem? (i := 7) rfl)) (hts (.static Lib.Math.max.name) (List.mem_of_getElem? (i := 8) rfl)) (hts (.initialized "java/lang/Math") (List.mem_of_getElem? (i := 9) rfl)) (hts (.code Lib.Math.max.name Lib.Math.max.code 2 (some .int)) (List.mem_of_getElem? (i := 10) rfl)) (Nat.le_of_ble_eq_true rfl) (Nat.le_of_ble_eq_true rfl) (Nat.le_of_ble_eq_true rfl) (Nat.le_of_ble_eq_true rfl) dX2_measure_114 ?_
      refine lv_topi (fun z_19 ez_19 => ?_)
      refine lv_istore (lv' := [(5, .int z_19), (4, .int z_16), (3, .int z_13), (2, .int z_2), (0, .ref h0), (1, .int x1)]) hx hb dX2_measure_117 hl (by decide +kernel) rfl (fun ls hl => ?_)
      refine lv_aload_n hx hb dX2_measure_119 rfl (lv_at hl 4 rfl) ?_
      refine lv_iload_n hx hb dX2_measure_120 rfl (lv_at hl 5 rfl) ?_
      refine va_cse (W.runV (As := [.int x1]) (rest := []) ⟨hx, hb, hml, hown, hts⟩ (c_X2_kindOf l D T ad sa av ta h0 [.int n0, .ref c1, .ref c2, .ref c3, .ref c4, .ref c5, .ref c6, .ref c7] c1 f1 x1 rfl (by omega) ((hok _ (in24 (x := x1) (by omega)).1).1)) (cwV 1 hts gX2_measure_X2_kindOf rfl rfl rfl hv_X2_kindOf ⟨Nat.le_of_ble_eq_true rfl, Nat.le_of_ble_eq_true rfl⟩) (pRk_V (q := (RX2, TX2, 8)) (ci := 1) (q0 := 0) hP hE hV hS rfl rfl [0, 1] rfl) rfl rfl hl.1 rfl (lv_room (Nat.le_of_ble_eq_true rfl)) dX2_measure_121 ⟨Nat.le_of_ble_eq_true rfl, Nat.le_of_ble_eq_true rfl⟩) (fun r_20 hr_20 => ?_)
      subst hr_20
      refine W.eq (g2 := F0 m 124 ls [.ref (ad ((f1 (x1.toNatClampNeg)).toNatClampNeg))]) rfl ?_
      refine va_gets (v := .ref (ad 8)) hx hb (hV.1.1.1 8 (by decide +kernel)).1 hS hown (hts (.fieldLink RX2 68 "ClauseBook$Kind" "UNTIL" "LClauseBook$Kind;") (List.mem_of_getElem? (i := 11) rfl)) (fun _ h9 => h9) dX2_measure_124 ?_
      refine lv_acmp_ne (rx := some (ad ((f1 (x1.toNatClampNeg)).toNatClampNeg))) (ry := some (ad 8)) (tgt := 141) hx hb dX2_measure_127 (by decide +kernel) (fun c_21 => ?_) (fun c_21 => ?_)
      · refine lv_aload_n hx hb dX2_measure_141 rfl (lv_at hl 4 rfl) ?_
        refine va_get (D := D) (ci := 1) (v := .ref c5) (C := RX2) (T := TX2) (N := 8) hx hb hts in_X2_measure_X2 hown hE.1 hP 0 rfl rfl 5 (by decide +kernel) (hts (.fieldLink RX2 28 "ClauseBook$Clauses" "end" "[I") (List.mem_of_getElem? (i := 2) rfl)) (fun _ h9 => h9) rfl dX2_measure_142 ?_
        refine lv_iload_n hx hb dX2_measure_145 rfl (lv_at hl 5 rfl) ?_
        refine lv_iload_n hx hb dX2_measure_146 rfl (lv_at hl 2 rfl) ?_
        refine va_iast hx hb hE.1 hP hD hS 5 0 rfl rfl (by rw [vp_in_iff]; first | omega | (subst_vars; omega)) dX2_measure_147 (fun H locs hP hD hS => ?_)
        obtain ⟨hP, hD⟩ := wPD [(h0, .inr (1, [.int n0, .ref c1, .ref c2, .ref c3, .ref c4, .ref c5, .ref c6, .ref c7])), (c1, .inl (T 0, 24, .inl f1)), (c2, .inl (T 0, 24, .inl f2)), (c3, .inl (T 0, 24, .inl f3)), (c4, .inl (T 0, 24, .inl f4)), (c5, .inl (T 0, 24, .inl (upd f5 (x1.toNatClampNeg) z_13))), (c6, .inl (T 0, 24, .inl f6)), (c7, .inl (T 0, 24, .inl f7))] hP hD rfl
        refine lv_aload_n hx hb dX2_measure_148 rfl (lv_at hl 4 rfl) ?_
        refine va_get (D := D) (ci := 1) (v := .ref c6) (C := RX2) (T := TX2) (N := 8) hx hb hts in_X2_measure_X2 hown hE.1 hP 0 rfl rfl 6 (by decide +kernel) (hts (.fieldLink RX2 31 "ClauseBook$Clauses" "made" "[I") (List.mem_of_getElem? (i := 4) rfl)) (fun _ h9 => h9) rfl dX2_measure_149 ?_
        refine lv_iload_n hx hb dX2_measure_152 rfl (lv_at hl 5 rfl) ?_
        refine lv_iload hx hb dX2_measure_153 (lv_at hl 1 rfl) ?_
        refine va_iast hx hb hE.1 hP hD hS 6 0 rfl rfl (by rw [vp_in_iff]; first | omega | (subst_vars; omega)) dX2_measure_155 (fun H locs hP hD hS => ?_)
        obtain ⟨hP, hD⟩ := wPD [(h0, .inr (1, [.int n0, .ref c1, .ref c2, .ref c3, .ref c4, .ref c5, .ref c6, .ref c7])), (c1, .inl (T 0, 24, .inl f1)), (c2, .inl (T 0, 24, .inl f2)), (c3, .inl (T 0, 24, .inl f3)), (c4, .inl (T 0, 24, .inl f4)), (c5, .inl (T 0, 24, .inl (upd f5 (x1.toNatClampNeg) z_13))), (c6, .inl (T 0, 24, .inl (upd f6 (x1.toNatClampNeg) z_16))), (c7, .inl (T 0, 24, .inl f7))] hP hD rfl
        refine lv_aload_n hx hb dX2_measure_156 rfl (lv_at hl 4 rfl) ?_
        refine va_get (D := D) (ci := 1) (v := .ref c7) (C := RX2) (T := TX2) (N := 8) hx hb hts in_X2_measure_X2 hown hE.1 hP 0 rfl rfl 7 (by decide +kernel) (hts (.fieldLink RX2 34 "ClauseBook$Clauses" "deep" "[I") (List.mem_of_getElem? (i := 5) rfl)) (fun _ h9 => h9) rfl dX2_measure_157 ?_
        refine lv_iload_n hx hb dX2_measure_160 rfl (lv_at hl 5 rfl) ?_
        refine lv_iload hx hb dX2_measure_161 (lv_at hl 0 rfl) ?_
        refine lv_iconst (v := 1) hx hb dX2_measure_163 (by decide +kernel) ?_
        refine lv_iadd hx hb dX2_measure_164 ?_
        refine va_iast hx hb hE.1 hP hD hS 7 0 rfl rfl (by rw [vp_in_iff]; first | omega | (subst_vars; omega)) dX2_measure_165 (fun H locs hP hD hS => ?_)
        obtain ⟨hP, hD⟩ := wPD [(h0, .inr (1, [.int n0, .ref c1, .ref c2, .ref c3, .ref c4, .ref c5, .ref c6, .ref c7])), (c1, .inl (T 0, 24, .inl f1)), (c2, .inl (T 0, 24, .inl f2)), (c3, .inl (T 0, 24, .inl f3)), (c4, .inl (T 0, 24, .inl f4)), (c5, .inl (T 0, 24, .inl (upd f5 (x1.toNatClampNeg) z_13))), (c6, .inl (T 0, 24, .inl (upd f6 (x1.toNatClampNeg) z_16))), (c7, .inl (T 0, 24, .inl (upd f7 (x1.toNatClampNeg) (z_19 + 1))))] hP hD rfl
        exact W.vret hx hb hr (fun t ht hW => ⟨⟨((upd f5 (x1.toNatClampNeg) z_13), (upd f6 (x1.toNatClampNeg) z_16), (upd f7 (x1.toNatClampNeg) (z_19 + 1))), rfl, ⟨(fun j hj => by
        show ((upd f5 (x1.toNatClampNeg) z_13) j).toInt ≤ 6
        by_cases hjx : j = x1.toNatClampNeg
        · simp only [upd, if_pos hjx]; first | omega | decide
        · simp only [upd, if_neg hjx]; exact (hok j hj).2.2.2), (by exfalso; omega)⟩, by rw [ht]; exact hP.sub [0, 1, 2, 3, 4, 5, 6, 7] rfl, hD.sub [0, 1, 2, 3, 4, 5, 6, 7] (by decide +kernel) rfl⟩, hS.F ht⟩) hS.2.2 dX2_measure_166
      · refine lv_iload_n hx hb dX2_measure_130 rfl (lv_at hl 2 rfl) ?_
        refine lv_aload_n hx hb dX2_measure_131 rfl (lv_at hl 4 rfl) ?_
        refine va_get (D := D) (ci := 1) (v := .ref c2) (C := RX2) (T := TX2) (N := 8) hx hb hts in_X2_measure_X2 hown hE.1 hP 0 rfl rfl 2 (by decide +kernel) (hts (.fieldLink RX2 19 "ClauseBook$Clauses" "n" "[I") (List.mem_of_getElem? (i := 12) rfl)) (fun _ h9 => h9) rfl dX2_measure_132 ?_
        refine lv_iload_n hx hb dX2_measure_135 rfl (lv_at hl 5 rfl) ?_
        refine va_iald hx hb hE.1 hP 2 0 rfl rfl (by rw [vp_in_iff]; first | omega | (subst_vars; omega)) dX2_measure_136 ?_
        refine lv_topi (fun z_22 ez_22 => ?_)
        refine va_mmin hx hb (hml.trans hl.1.symm) hown (hts (.methodLink RX2 72 Lib.Math.min.name) (List.mem_of_getElem? (i := 13) rfl)) (hts (.static Lib.Math.min.name) (List.mem_of_getElem? (i := 14) rfl)) (hts (.initialized "java/lang/Math") (List.mem_of_getElem? (i := 9) rfl)) (hts (.code Lib.Math.min.name Lib.Math.min.code 2 (some .int)) (List.mem_of_getElem? (i := 15) rfl)) (Nat.le_of_ble_eq_true rfl) (Nat.le_of_ble_eq_true rfl) (Nat.le_of_ble_eq_true rfl) (Nat.le_of_ble_eq_true rfl) dX2_measure_137 ?_
        refine lv_topi (fun z_23 ez_23 => ?_)
        have h6z_23 : z_23.toInt ≤ 6 := by
          rw [ez_23]
          have h66 := ti_6
          split
          · rename_i h
            rw [fa_lt] at h
            omega
          · omega
        refine lv_istore_n (lv' := [(3, .int z_23), (5, .int z_19), (4, .int z_16), (2, .int z_2), (0, .ref h0), (1, .int x1)]) hx hb dX2_measure_140 rfl hl (by decide +kernel) rfl (fun ls hl => ?_)
        refine lv_aload_n hx hb dX2_measure_141 rfl (lv_at hl 4 rfl) ?_
        refine va_get (D := D) (ci := 1) (v := .ref c5) (C := RX2) (T := TX2) (N := 8) hx hb hts in_X2_measure_X2 hown hE.1 hP 0 rfl rfl 5 (by decide +kernel) (hts (.fieldLink RX2 28 "ClauseBook$Clauses" "end" "[I") (List.mem_of_getElem? (i := 2) rfl)) (fun _ h9 => h9) rfl dX2_measure_142 ?_
        refine lv_iload_n hx hb dX2_measure_145 rfl (lv_at hl 5 rfl) ?_
        refine lv_iload_n hx hb dX2_measure_146 rfl (lv_at hl 0 rfl) ?_
        refine va_iast hx hb hE.1 hP hD hS 5 0 rfl rfl (by rw [vp_in_iff]; first | omega | (subst_vars; omega)) dX2_measure_147 (fun H locs hP hD hS => ?_)
        obtain ⟨hP, hD⟩ := wPD [(h0, .inr (1, [.int n0, .ref c1, .ref c2, .ref c3, .ref c4, .ref c5, .ref c6, .ref c7])), (c1, .inl (T 0, 24, .inl f1)), (c2, .inl (T 0, 24, .inl f2)), (c3, .inl (T 0, 24, .inl f3)), (c4, .inl (T 0, 24, .inl f4)), (c5, .inl (T 0, 24, .inl (upd f5 (x1.toNatClampNeg) z_23))), (c6, .inl (T 0, 24, .inl f6)), (c7, .inl (T 0, 24, .inl f7))] hP hD rfl
        refine lv_aload_n hx hb dX2_measure_148 rfl (lv_at hl 4 rfl) ?_
        refine va_get (D := D) (ci := 1) (v := .ref c6) (C := RX2) (T := TX2) (N := 8) hx hb hts in_X2_measure_X2 hown hE.1 hP 0 rfl rfl 6 (by decide +kernel) (hts (.fieldLink RX2 31 "ClauseBook$Clauses" "made" "[I") (List.mem_of_getElem? (i := 4) rfl)) (fun _ h9 => h9) rfl dX2_measure_149 ?_
        refine lv_iload_n hx hb dX2_measure_152 rfl (lv_at hl 5 rfl) ?_
        refine lv_iload hx hb dX2_measure_153 (lv_at hl 2 rfl) ?_
        refine va_iast hx hb hE.1 hP hD hS 6 0 rfl rfl (by rw [vp_in_iff]; first | omega | (subst_vars; omega)) dX2_measure_155 (fun H locs hP hD hS => ?_)
        obtain ⟨hP, hD⟩ := wPD [(h0, .inr (1, [.int n0, .ref c1, .ref c2, .ref c3, .ref c4, .ref c5, .ref c6, .ref c7])), (c1, .inl (T 0, 24, .inl f1)), (c2, .inl (T 0, 24, .inl f2)), (c3, .inl (T 0, 24, .inl f3)), (c4, .inl (T 0, 24, .inl f4)), (c5, .inl (T 0, 24, .inl (upd f5 (x1.toNatClampNeg) z_23))), (c6, .inl (T 0, 24, .inl (upd f6 (x1.toNatClampNeg) z_16))), (c7, .inl (T 0, 24, .inl f7))] hP hD rfl
        refine lv_aload_n hx hb dX2_measure_156 rfl (lv_at hl 4 rfl) ?_
        refine va_get (D := D) (ci := 1) (v := .ref c7) (C := RX2) (T := TX2) (N := 8) hx hb hts in_X2_measure_X2 hown hE.1 hP 0 rfl rfl 7 (by decide +kernel) (hts (.fieldLink RX2 34 "ClauseBook$Clauses" "deep" "[I") (List.mem_of_getElem? (i := 5) rfl)) (fun _ h9 => h9) rfl dX2_measure_157 ?_
        refine lv_iload_n hx hb dX2_measure_160 rfl (lv_at hl 5 rfl) ?_
        refine lv_iload hx hb dX2_measure_161 (lv_at hl 1 rfl) ?_
        refine lv_iconst (v := 1) hx hb dX2_measure_163 (by decide +kernel) ?_
        refine lv_iadd hx hb dX2_measure_164 ?_
        refine va_iast hx hb hE.1 hP hD hS 7 0 rfl rfl (by rw [vp_in_iff]; first | omega | (subst_vars; omega)) dX2_measure_165 (fun H locs hP hD hS => ?_)
        obtain ⟨hP, hD⟩ := wPD [(h0, .inr (1, [.int n0, .ref c1, .ref c2, .ref c3, .ref c4, .ref c5, .ref c6, .ref c7])), (c1, .inl (T 0, 24, .inl f1)), (c2, .inl (T 0, 24, .inl f2)), (c3, .inl (T 0, 24, .inl f3)), (c4, .inl (T 0, 24, .inl f4)), (c5, .inl (T 0, 24, .inl (upd f5 (x1.toNatClampNeg) z_23))), (c6, .inl (T 0, 24, .inl (upd f6 (x1.toNatClampNeg) z_16))), (c7, .inl (T 0, 24, .inl (upd f7 (x1.toNatClampNeg) (z_19 + 1))))] hP hD rfl
        exact W.vret hx hb hr (fun t ht hW => ⟨⟨((upd f5 (x1.toNatClampNeg) z_23), (upd f6 (x1.toNatClampNeg) z_16), (upd f7 (x1.toNatClampNeg) (z_19 + 1))), rfl, ⟨(fun j hj => by
        show ((upd f5 (x1.toNatClampNeg) z_23) j).toInt ≤ 6
        by_cases hjx : j = x1.toNatClampNeg
        · simp only [upd, if_pos hjx]; first | omega | decide
        · simp only [upd, if_neg hjx]; exact (hok j hj).2.2.2), (by exfalso; omega)⟩, by rw [ht]; exact hP.sub [0, 1, 2, 3, 4, 5, 6, 7] rfl, hD.sub [0, 1, 2, 3, 4, 5, 6, 7] (by decide +kernel) rfl⟩, hS.F ht⟩) hS.2.2 dX2_measure_166
  · rw [fa_lt] at c_3
    try rw [ti_1] at c_3
    have hc9 : 0 ≤ (f3 (x1.toNatClampNeg)).toInt ∧ (f3 (x1.toNatClampNeg)).toInt < x1.toInt := by
      have h := (hok _ (in24 (x := x1) (by omega)).1).2.1 (by rw [← ez_2]; omega)
      have h2 := (in24 (x := x1) (by omega)).2
      omega
    refine lv_aload_n hx hb dX2_measure_23 rfl (lv_at hl 4 rfl) ?_
    refine va_get (D := D) (ci := 1) (v := .ref c5) (C := RX2) (T := TX2) (N := 8) hx hb hts in_X2_measure_X2 hown hE.1 hP 0 rfl rfl 5 (by decide +kernel) (hts (.fieldLink RX2 28 "ClauseBook$Clauses" "end" "[I") (List.mem_of_getElem? (i := 2) rfl)) (fun _ h9 => h9) rfl dX2_measure_24 ?_
    refine lv_aload_n hx hb dX2_measure_27 rfl (lv_at hl 4 rfl) ?_
    refine va_get (D := D) (ci := 1) (v := .ref c3) (C := RX2) (T := TX2) (N := 8) hx hb hts in_X2_measure_X2 hown hE.1 hP 0 rfl rfl 3 (by decide +kernel) (hts (.fieldLink RX2 22 "ClauseBook$Clauses" "c" "[I") (List.mem_of_getElem? (i := 3) rfl)) (fun _ h9 => h9) rfl dX2_measure_28 ?_
    refine lv_iload_n hx hb dX2_measure_31 rfl (lv_at hl 5 rfl) ?_
    refine va_iald hx hb hE.1 hP 3 0 rfl rfl (by rw [vp_in_iff]; first | omega | (subst_vars; omega)) dX2_measure_32 ?_
    refine lv_topi (fun z_24 ez_24 => ?_)
    refine va_iald hx hb hE.1 hP 5 0 rfl rfl (by rw [vp_in_iff]; first | omega | (subst_vars; omega)) dX2_measure_33 ?_
    refine lv_topi (fun z_25 ez_25 => ?_)
    have h6z_25 : z_25.toInt ≤ 6 := by
      rw [ez_25]
      exact (hok _ (in24 (by subst_vars; omega)).1).2.2.2
    refine lv_istore_n (lv' := [(3, .int z_25), (5, .int 0), (4, .int 1), (2, .int z_2), (0, .ref h0), (1, .int x1)]) hx hb dX2_measure_34 rfl hl (by decide +kernel) rfl (fun ls hl => ?_)
    refine lv_iload hx hb dX2_measure_35 (lv_at hl 2 rfl) ?_
    refine lv_aload_n hx hb dX2_measure_37 rfl (lv_at hl 4 rfl) ?_
    refine va_get (D := D) (ci := 1) (v := .ref c6) (C := RX2) (T := TX2) (N := 8) hx hb hts in_X2_measure_X2 hown hE.1 hP 0 rfl rfl 6 (by decide +kernel) (hts (.fieldLink RX2 31 "ClauseBook$Clauses" "made" "[I") (List.mem_of_getElem? (i := 4) rfl)) (fun _ h9 => h9) rfl dX2_measure_38 ?_
    refine lv_aload_n hx hb dX2_measure_41 rfl (lv_at hl 4 rfl) ?_
    refine va_get (D := D) (ci := 1) (v := .ref c3) (C := RX2) (T := TX2) (N := 8) hx hb hts in_X2_measure_X2 hown hE.1 hP 0 rfl rfl 3 (by decide +kernel) (hts (.fieldLink RX2 22 "ClauseBook$Clauses" "c" "[I") (List.mem_of_getElem? (i := 3) rfl)) (fun _ h9 => h9) rfl dX2_measure_42 ?_
    refine lv_iload_n hx hb dX2_measure_45 rfl (lv_at hl 5 rfl) ?_
    refine va_iald hx hb hE.1 hP 3 0 rfl rfl (by rw [vp_in_iff]; first | omega | (subst_vars; omega)) dX2_measure_46 ?_
    refine lv_topi (fun z_26 ez_26 => ?_)
    refine va_iald hx hb hE.1 hP 6 0 rfl rfl (by rw [vp_in_iff]; first | omega | (subst_vars; omega)) dX2_measure_47 ?_
    refine lv_topi (fun z_27 ez_27 => ?_)
    refine lv_iadd hx hb dX2_measure_48 ?_
    refine lv_topi (fun z_28 ez_28 => ?_)
    refine lv_istore (lv' := [(4, .int z_28), (3, .int z_25), (5, .int 0), (2, .int z_2), (0, .ref h0), (1, .int x1)]) hx hb dX2_measure_49 hl (by decide +kernel) rfl (fun ls hl => ?_)
    refine lv_aload_n hx hb dX2_measure_51 rfl (lv_at hl 4 rfl) ?_
    refine va_get (D := D) (ci := 1) (v := .ref c7) (C := RX2) (T := TX2) (N := 8) hx hb hts in_X2_measure_X2 hown hE.1 hP 0 rfl rfl 7 (by decide +kernel) (hts (.fieldLink RX2 34 "ClauseBook$Clauses" "deep" "[I") (List.mem_of_getElem? (i := 5) rfl)) (fun _ h9 => h9) rfl dX2_measure_52 ?_
    refine lv_aload_n hx hb dX2_measure_55 rfl (lv_at hl 4 rfl) ?_
    refine va_get (D := D) (ci := 1) (v := .ref c3) (C := RX2) (T := TX2) (N := 8) hx hb hts in_X2_measure_X2 hown hE.1 hP 0 rfl rfl 3 (by decide +kernel) (hts (.fieldLink RX2 22 "ClauseBook$Clauses" "c" "[I") (List.mem_of_getElem? (i := 3) rfl)) (fun _ h9 => h9) rfl dX2_measure_56 ?_
    refine lv_iload_n hx hb dX2_measure_59 rfl (lv_at hl 5 rfl) ?_
    refine va_iald hx hb hE.1 hP 3 0 rfl rfl (by rw [vp_in_iff]; first | omega | (subst_vars; omega)) dX2_measure_60 ?_
    refine lv_topi (fun z_29 ez_29 => ?_)
    refine va_iald hx hb hE.1 hP 7 0 rfl rfl (by rw [vp_in_iff]; first | omega | (subst_vars; omega)) dX2_measure_61 ?_
    refine lv_topi (fun z_30 ez_30 => ?_)
    refine lv_istore (lv' := [(5, .int z_30), (4, .int z_28), (3, .int z_25), (2, .int z_2), (0, .ref h0), (1, .int x1)]) hx hb dX2_measure_62 hl (by decide +kernel) rfl (fun ls hl => ?_)
    refine lv_iload_n hx hb dX2_measure_64 rfl (lv_at hl 3 rfl) ?_
    refine lv_iconst (v := 2) hx hb dX2_measure_65 (by decide +kernel) ?_
    refine lv_icmp_ne (tgt := 119) hx hb dX2_measure_66 (by decide +kernel) (fun c_31 => ?_) (fun c_31 => ?_)
    · rw [fa_eq] at c_31
      try rw [ti_2] at c_31
      refine lv_aload_n hx hb dX2_measure_119 rfl (lv_at hl 4 rfl) ?_
      refine lv_iload_n hx hb dX2_measure_120 rfl (lv_at hl 5 rfl) ?_
      refine va_cse (W.runV (As := [.int x1]) (rest := []) ⟨hx, hb, hml, hown, hts⟩ (c_X2_kindOf l D T ad sa av ta h0 [.int n0, .ref c1, .ref c2, .ref c3, .ref c4, .ref c5, .ref c6, .ref c7] c1 f1 x1 rfl (by omega) ((hok _ (in24 (x := x1) (by omega)).1).1)) (cwV 1 hts gX2_measure_X2_kindOf rfl rfl rfl hv_X2_kindOf ⟨Nat.le_of_ble_eq_true rfl, Nat.le_of_ble_eq_true rfl⟩) (pRk_V (q := (RX2, TX2, 8)) (ci := 1) (q0 := 0) hP hE hV hS rfl rfl [0, 1] rfl) rfl rfl hl.1 rfl (lv_room (Nat.le_of_ble_eq_true rfl)) dX2_measure_121 ⟨Nat.le_of_ble_eq_true rfl, Nat.le_of_ble_eq_true rfl⟩) (fun r_32 hr_32 => ?_)
      subst hr_32
      refine W.eq (g2 := F0 m 124 ls [.ref (ad ((f1 (x1.toNatClampNeg)).toNatClampNeg))]) rfl ?_
      refine va_gets (v := .ref (ad 8)) hx hb (hV.1.1.1 8 (by decide +kernel)).1 hS hown (hts (.fieldLink RX2 68 "ClauseBook$Kind" "UNTIL" "LClauseBook$Kind;") (List.mem_of_getElem? (i := 11) rfl)) (fun _ h9 => h9) dX2_measure_124 ?_
      refine lv_acmp_ne (rx := some (ad ((f1 (x1.toNatClampNeg)).toNatClampNeg))) (ry := some (ad 8)) (tgt := 141) hx hb dX2_measure_127 (by decide +kernel) (fun c_33 => ?_) (fun c_33 => ?_)
      · refine lv_aload_n hx hb dX2_measure_141 rfl (lv_at hl 4 rfl) ?_
        refine va_get (D := D) (ci := 1) (v := .ref c5) (C := RX2) (T := TX2) (N := 8) hx hb hts in_X2_measure_X2 hown hE.1 hP 0 rfl rfl 5 (by decide +kernel) (hts (.fieldLink RX2 28 "ClauseBook$Clauses" "end" "[I") (List.mem_of_getElem? (i := 2) rfl)) (fun _ h9 => h9) rfl dX2_measure_142 ?_
        refine lv_iload_n hx hb dX2_measure_145 rfl (lv_at hl 5 rfl) ?_
        refine lv_iload_n hx hb dX2_measure_146 rfl (lv_at hl 2 rfl) ?_
        refine va_iast hx hb hE.1 hP hD hS 5 0 rfl rfl (by rw [vp_in_iff]; first | omega | (subst_vars; omega)) dX2_measure_147 (fun H locs hP hD hS => ?_)
        obtain ⟨hP, hD⟩ := wPD [(h0, .inr (1, [.int n0, .ref c1, .ref c2, .ref c3, .ref c4, .ref c5, .ref c6, .ref c7])), (c1, .inl (T 0, 24, .inl f1)), (c2, .inl (T 0, 24, .inl f2)), (c3, .inl (T 0, 24, .inl f3)), (c4, .inl (T 0, 24, .inl f4)), (c5, .inl (T 0, 24, .inl (upd f5 (x1.toNatClampNeg) z_25))), (c6, .inl (T 0, 24, .inl f6)), (c7, .inl (T 0, 24, .inl f7))] hP hD rfl
        refine lv_aload_n hx hb dX2_measure_148 rfl (lv_at hl 4 rfl) ?_
        refine va_get (D := D) (ci := 1) (v := .ref c6) (C := RX2) (T := TX2) (N := 8) hx hb hts in_X2_measure_X2 hown hE.1 hP 0 rfl rfl 6 (by decide +kernel) (hts (.fieldLink RX2 31 "ClauseBook$Clauses" "made" "[I") (List.mem_of_getElem? (i := 4) rfl)) (fun _ h9 => h9) rfl dX2_measure_149 ?_
        refine lv_iload_n hx hb dX2_measure_152 rfl (lv_at hl 5 rfl) ?_
        refine lv_iload hx hb dX2_measure_153 (lv_at hl 1 rfl) ?_
        refine va_iast hx hb hE.1 hP hD hS 6 0 rfl rfl (by rw [vp_in_iff]; first | omega | (subst_vars; omega)) dX2_measure_155 (fun H locs hP hD hS => ?_)
        obtain ⟨hP, hD⟩ := wPD [(h0, .inr (1, [.int n0, .ref c1, .ref c2, .ref c3, .ref c4, .ref c5, .ref c6, .ref c7])), (c1, .inl (T 0, 24, .inl f1)), (c2, .inl (T 0, 24, .inl f2)), (c3, .inl (T 0, 24, .inl f3)), (c4, .inl (T 0, 24, .inl f4)), (c5, .inl (T 0, 24, .inl (upd f5 (x1.toNatClampNeg) z_25))), (c6, .inl (T 0, 24, .inl (upd f6 (x1.toNatClampNeg) z_28))), (c7, .inl (T 0, 24, .inl f7))] hP hD rfl
        refine lv_aload_n hx hb dX2_measure_156 rfl (lv_at hl 4 rfl) ?_
        refine va_get (D := D) (ci := 1) (v := .ref c7) (C := RX2) (T := TX2) (N := 8) hx hb hts in_X2_measure_X2 hown hE.1 hP 0 rfl rfl 7 (by decide +kernel) (hts (.fieldLink RX2 34 "ClauseBook$Clauses" "deep" "[I") (List.mem_of_getElem? (i := 5) rfl)) (fun _ h9 => h9) rfl dX2_measure_157 ?_
        refine lv_iload_n hx hb dX2_measure_160 rfl (lv_at hl 5 rfl) ?_
        refine lv_iload hx hb dX2_measure_161 (lv_at hl 0 rfl) ?_
        refine lv_iconst (v := 1) hx hb dX2_measure_163 (by decide +kernel) ?_
        refine lv_iadd hx hb dX2_measure_164 ?_
        refine va_iast hx hb hE.1 hP hD hS 7 0 rfl rfl (by rw [vp_in_iff]; first | omega | (subst_vars; omega)) dX2_measure_165 (fun H locs hP hD hS => ?_)
        obtain ⟨hP, hD⟩ := wPD [(h0, .inr (1, [.int n0, .ref c1, .ref c2, .ref c3, .ref c4, .ref c5, .ref c6, .ref c7])), (c1, .inl (T 0, 24, .inl f1)), (c2, .inl (T 0, 24, .inl f2)), (c3, .inl (T 0, 24, .inl f3)), (c4, .inl (T 0, 24, .inl f4)), (c5, .inl (T 0, 24, .inl (upd f5 (x1.toNatClampNeg) z_25))), (c6, .inl (T 0, 24, .inl (upd f6 (x1.toNatClampNeg) z_28))), (c7, .inl (T 0, 24, .inl (upd f7 (x1.toNatClampNeg) (z_30 + 1))))] hP hD rfl
        exact W.vret hx hb hr (fun t ht hW => ⟨⟨((upd f5 (x1.toNatClampNeg) z_25), (upd f6 (x1.toNatClampNeg) z_28), (upd f7 (x1.toNatClampNeg) (z_30 + 1))), rfl, ⟨(fun j hj => by
        show ((upd f5 (x1.toNatClampNeg) z_25) j).toInt ≤ 6
        by_cases hjx : j = x1.toNatClampNeg
        · simp only [upd, if_pos hjx]; first | omega | decide
        · simp only [upd, if_neg hjx]; exact (hok j hj).2.2.2), ⟨_, _, _, rfl, rfl, rfl, (mesE_no (fun e9 => c_33 (by rw [e9])) (endB_1 (by rw [← ez_2]; omega) ez_25 ez_24)), (mesM_1 (by rw [← ez_2]; omega) ez_28 ez_27 ez_26), (mesD_1 (by rw [← ez_2]; omega) ez_30 ez_29)⟩⟩, by rw [ht]; exact hP.sub [0, 1, 2, 3, 4, 5, 6, 7] rfl, hD.sub [0, 1, 2, 3, 4, 5, 6, 7] (by decide +kernel) rfl⟩, hS.F ht⟩) hS.2.2 dX2_measure_166
      · refine lv_iload_n hx hb dX2_measure_130 rfl (lv_at hl 2 rfl) ?_
        refine lv_aload_n hx hb dX2_measure_131 rfl (lv_at hl 4 rfl) ?_
        refine va_get (D := D) (ci := 1) (v := .ref c2) (C := RX2) (T := TX2) (N := 8) hx hb hts in_X2_measure_X2 hown hE.1 hP 0 rfl rfl 2 (by decide +kernel) (hts (.fieldLink RX2 19 "ClauseBook$Clauses" "n" "[I") (List.mem_of_getElem? (i := 12) rfl)) (fun _ h9 => h9) rfl dX2_measure_132 ?_
        refine lv_iload_n hx hb dX2_measure_135 rfl (lv_at hl 5 rfl) ?_
        refine va_iald hx hb hE.1 hP 2 0 rfl rfl (by rw [vp_in_iff]; first | omega | (subst_vars; omega)) dX2_measure_136 ?_
        refine lv_topi (fun z_34 ez_34 => ?_)
        refine va_mmin hx hb (hml.trans hl.1.symm) hown (hts (.methodLink RX2 72 Lib.Math.min.name) (List.mem_of_getElem? (i := 13) rfl)) (hts (.static Lib.Math.min.name) (List.mem_of_getElem? (i := 14) rfl)) (hts (.initialized "java/lang/Math") (List.mem_of_getElem? (i := 9) rfl)) (hts (.code Lib.Math.min.name Lib.Math.min.code 2 (some .int)) (List.mem_of_getElem? (i := 15) rfl)) (Nat.le_of_ble_eq_true rfl) (Nat.le_of_ble_eq_true rfl) (Nat.le_of_ble_eq_true rfl) (Nat.le_of_ble_eq_true rfl) dX2_measure_137 ?_
        refine lv_topi (fun z_35 ez_35 => ?_)
        have h6z_35 : z_35.toInt ≤ 6 := by
          rw [ez_35]
          have h66 := ti_6
          split
          · rename_i h
            rw [fa_lt] at h
            omega
          · omega
        refine lv_istore_n (lv' := [(3, .int z_35), (5, .int z_30), (4, .int z_28), (2, .int z_2), (0, .ref h0), (1, .int x1)]) hx hb dX2_measure_140 rfl hl (by decide +kernel) rfl (fun ls hl => ?_)
        refine lv_aload_n hx hb dX2_measure_141 rfl (lv_at hl 4 rfl) ?_
        refine va_get (D := D) (ci := 1) (v := .ref c5) (C := RX2) (T := TX2) (N := 8) hx hb hts in_X2_measure_X2 hown hE.1 hP 0 rfl rfl 5 (by decide +kernel) (hts (.fieldLink RX2 28 "ClauseBook$Clauses" "end" "[I") (List.mem_of_getElem? (i := 2) rfl)) (fun _ h9 => h9) rfl dX2_measure_142 ?_
        refine lv_iload_n hx hb dX2_measure_145 rfl (lv_at hl 5 rfl) ?_
        refine lv_iload_n hx hb dX2_measure_146 rfl (lv_at hl 0 rfl) ?_
        refine va_iast hx hb hE.1 hP hD hS 5 0 rfl rfl (by rw [vp_in_iff]; first | omega | (subst_vars; omega)) dX2_measure_147 (fun H locs hP hD hS => ?_)
        obtain ⟨hP, hD⟩ := wPD [(h0, .inr (1, [.int n0, .ref c1, .ref c2, .ref c3, .ref c4, .ref c5, .ref c6, .ref c7])), (c1, .inl (T 0, 24, .inl f1)), (c2, .inl (T 0, 24, .inl f2)), (c3, .inl (T 0, 24, .inl f3)), (c4, .inl (T 0, 24, .inl f4)), (c5, .inl (T 0, 24, .inl (upd f5 (x1.toNatClampNeg) z_35))), (c6, .inl (T 0, 24, .inl f6)), (c7, .inl (T 0, 24, .inl f7))] hP hD rfl
        refine lv_aload_n hx hb dX2_measure_148 rfl (lv_at hl 4 rfl) ?_
        refine va_get (D := D) (ci := 1) (v := .ref c6) (C := RX2) (T := TX2) (N := 8) hx hb hts in_X2_measure_X2 hown hE.1 hP 0 rfl rfl 6 (by decide +kernel) (hts (.fieldLink RX2 31 "ClauseBook$Clauses" "made" "[I") (List.mem_of_getElem? (i := 4) rfl)) (fun _ h9 => h9) rfl dX2_measure_149 ?_
        refine lv_iload_n hx hb dX2_measure_152 rfl (lv_at hl 5 rfl) ?_
        refine lv_iload hx hb dX2_measure_153 (lv_at hl 2 rfl) ?_
        refine va_iast hx hb hE.1 hP hD hS 6 0 rfl rfl (by rw [vp_in_iff]; first | omega | (subst_vars; omega)) dX2_measure_155 (fun H locs hP hD hS => ?_)
        obtain ⟨hP, hD⟩ := wPD [(h0, .inr (1, [.int n0, .ref c1, .ref c2, .ref c3, .ref c4, .ref c5, .ref c6, .ref c7])), (c1, .inl (T 0, 24, .inl f1)), (c2, .inl (T 0, 24, .inl f2)), (c3, .inl (T 0, 24, .inl f3)), (c4, .inl (T 0, 24, .inl f4)), (c5, .inl (T 0, 24, .inl (upd f5 (x1.toNatClampNeg) z_35))), (c6, .inl (T 0, 24, .inl (upd f6 (x1.toNatClampNeg) z_28))), (c7, .inl (T 0, 24, .inl f7))] hP hD rfl
        refine lv_aload_n hx hb dX2_measure_156 rfl (lv_at hl 4 rfl) ?_
        refine va_get (D := D) (ci := 1) (v := .ref c7) (C := RX2) (T := TX2) (N := 8) hx hb hts in_X2_measure_X2 hown hE.1 hP 0 rfl rfl 7 (by decide +kernel) (hts (.fieldLink RX2 34 "ClauseBook$Clauses" "deep" "[I") (List.mem_of_getElem? (i := 5) rfl)) (fun _ h9 => h9) rfl dX2_measure_157 ?_
        refine lv_iload_n hx hb dX2_measure_160 rfl (lv_at hl 5 rfl) ?_
        refine lv_iload hx hb dX2_measure_161 (lv_at hl 1 rfl) ?_
        refine lv_iconst (v := 1) hx hb dX2_measure_163 (by decide +kernel) ?_
        refine lv_iadd hx hb dX2_measure_164 ?_
        refine va_iast hx hb hE.1 hP hD hS 7 0 rfl rfl (by rw [vp_in_iff]; first | omega | (subst_vars; omega)) dX2_measure_165 (fun H locs hP hD hS => ?_)
        obtain ⟨hP, hD⟩ := wPD [(h0, .inr (1, [.int n0, .ref c1, .ref c2, .ref c3, .ref c4, .ref c5, .ref c6, .ref c7])), (c1, .inl (T 0, 24, .inl f1)), (c2, .inl (T 0, 24, .inl f2)), (c3, .inl (T 0, 24, .inl f3)), (c4, .inl (T 0, 24, .inl f4)), (c5, .inl (T 0, 24, .inl (upd f5 (x1.toNatClampNeg) z_35))), (c6, .inl (T 0, 24, .inl (upd f6 (x1.toNatClampNeg) z_28))), (c7, .inl (T 0, 24, .inl (upd f7 (x1.toNatClampNeg) (z_30 + 1))))] hP hD rfl
        exact W.vret hx hb hr (fun t ht hW => ⟨⟨((upd f5 (x1.toNatClampNeg) z_35), (upd f6 (x1.toNatClampNeg) z_28), (upd f7 (x1.toNatClampNeg) (z_30 + 1))), rfl, ⟨(fun j hj => by
        show ((upd f5 (x1.toNatClampNeg) z_35) j).toInt ≤ 6
        by_cases hjx : j = x1.toNatClampNeg
        · simp only [upd, if_pos hjx]; first | omega | decide
        · simp only [upd, if_neg hjx]; exact (hok j hj).2.2.2), ⟨_, _, _, rfl, rfl, rfl, (mesE_yes (hV.1.1.2 _ 8 (in13c ((hok _ (in24 (x := x1) (by omega)).1).1)) (by decide +kernel) (Option.some.inj c_33)) (endB_1 (by rw [← ez_2]; omega) ez_25 ez_24) ez_35 ez_34), (mesM_1 (by rw [← ez_2]; omega) ez_28 ez_27 ez_26), (mesD_1 (by rw [← ez_2]; omega) ez_30 ez_29)⟩⟩, by rw [ht]; exact hP.sub [0, 1, 2, 3, 4, 5, 6, 7] rfl, hD.sub [0, 1, 2, 3, 4, 5, 6, 7] (by decide +kernel) rfl⟩, hS.F ht⟩) hS.2.2 dX2_measure_166
    · rw [fa_eq] at c_31
      try rw [ti_2] at c_31
      have hd9 : 0 ≤ (f4 (x1.toNatClampNeg)).toInt ∧ (f4 (x1.toNatClampNeg)).toInt < x1.toInt := by
        have h := (hok _ (in24 (x := x1) (by omega)).1).2.2.1 (by rw [← ez_2]; omega)
        have h2 := (in24 (x := x1) (by omega)).2
        omega
      refine lv_iload_n hx hb dX2_measure_69 rfl (lv_at hl 2 rfl) ?_
      refine lv_aload_n hx hb dX2_measure_70 rfl (lv_at hl 4 rfl) ?_
      refine va_get (D := D) (ci := 1) (v := .ref c5) (C := RX2) (T := TX2) (N := 8) hx hb hts in_X2_measure_X2 hown hE.1 hP 0 rfl rfl 5 (by decide +kernel) (hts (.fieldLink RX2 28 "ClauseBook$Clauses" "end" "[I") (List.mem_of_getElem? (i := 2) rfl)) (fun _ h9 => h9) rfl dX2_measure_71 ?_
      refine lv_aload_n hx hb dX2_measure_74 rfl (lv_at hl 4 rfl) ?_
      refine va_get (D := D) (ci := 1) (v := .ref c4) (C := RX2) (T := TX2) (N := 8) hx hb hts in_X2_measure_X2 hown hE.1 hP 0 rfl rfl 4 (by decide +kernel) (hts (.fieldLink RX2 25 "ClauseBook$Clauses" "d" "[I") (List.mem_of_getElem? (i := 6) rfl)) (fun _ h9 => h9) rfl dX2_measure_75 ?_
      refine lv_iload_n hx hb dX2_measure_78 rfl (lv_at hl 5 rfl) ?_
      refine va_iald hx hb hE.1 hP 4 0 rfl rfl (by rw [vp_in_iff]; first | omega | (subst_vars; omega)) dX2_measure_79 ?_
      refine lv_topi (fun z_36 ez_36 => ?_)
      refine va_iald hx hb hE.1 hP 5 0 rfl rfl (by rw [vp_in_iff]; first | omega | (subst_vars; omega)) dX2_measure_80 ?_
      refine lv_topi (fun z_37 ez_37 => ?_)
      have h6z_37 : z_37.toInt ≤ 6 := by
        rw [ez_37]
        exact (hok _ (in24 (by subst_vars; omega)).1).2.2.2
      refine va_mmax hx hb (hml.trans hl.1.symm) hown (hts (.methodLink RX2 62 Lib.Math.max.name) (List.mem_of_getElem? (i := 7) rfl)) (hts (.static Lib.Math.max.name) (List.mem_of_getElem? (i := 8) rfl)) (hts (.initialized "java/lang/Math") (List.mem_of_getElem? (i := 9) rfl)) (hts (.code Lib.Math.max.name Lib.Math.max.code 2 (some .int)) (List.mem_of_getElem? (i := 10) rfl)) (Nat.le_of_ble_eq_true rfl) (Nat.le_of_ble_eq_true rfl) (Nat.le_of_ble_eq_true rfl) (Nat.le_of_ble_eq_true rfl) dX2_measure_81 ?_
      refine lv_topi (fun z_38 ez_38 => ?_)
      have h6z_38 : z_38.toInt ≤ 6 := by
        rw [ez_38]
        have h66 := ti_6
        split
        · rename_i h
          rw [fa_lt] at h
          omega
        · omega
      refine lv_istore_n (lv' := [(3, .int z_38), (5, .int z_30), (4, .int z_28), (2, .int z_2), (0, .ref h0), (1, .int x1)]) hx hb dX2_measure_84 rfl hl (by decide +kernel) rfl (fun ls hl => ?_)
      refine lv_iload hx hb dX2_measure_85 (lv_at hl 2 rfl) ?_
      refine lv_aload_n hx hb dX2_measure_87 rfl (lv_at hl 4 rfl) ?_
      refine va_get (D := D) (ci := 1) (v := .ref c6) (C := RX2) (T := TX2) (N := 8) hx hb hts in_X2_measure_X2 hown hE.1 hP 0 rfl rfl 6 (by decide +kernel) (hts (.fieldLink RX2 31 "ClauseBook$Clauses" "made" "[I") (List.mem_of_getElem? (i := 4) rfl)) (fun _ h9 => h9) rfl dX2_measure_88 ?_
      refine lv_aload_n hx hb dX2_measure_91 rfl (lv_at hl 4 rfl) ?_
      refine va_get (D := D) (ci := 1) (v := .ref c4) (C := RX2) (T := TX2) (N := 8) hx hb hts in_X2_measure_X2 hown hE.1 hP 0 rfl rfl 4 (by decide +kernel) (hts (.fieldLink RX2 25 "ClauseBook$Clauses" "d" "[I") (List.mem_of_getElem? (i := 6) rfl)) (fun _ h9 => h9) rfl dX2_measure_92 ?_
      refine lv_iload_n hx hb dX2_measure_95 rfl (lv_at hl 5 rfl) ?_
      refine va_iald hx hb hE.1 hP 4 0 rfl rfl (by rw [vp_in_iff]; first | omega | (subst_vars; omega)) dX2_measure_96 ?_
      refine lv_topi (fun z_39 ez_39 => ?_)
      refine va_iald hx hb hE.1 hP 6 0 rfl rfl (by rw [vp_in_iff]; first | omega | (subst_vars; omega)) dX2_measure_97 ?_
      refine lv_topi (fun z_40 ez_40 => ?_)
      refine lv_iadd hx hb dX2_measure_98 ?_
      refine lv_topi (fun z_41 ez_41 => ?_)
      refine lv_istore (lv' := [(4, .int z_41), (3, .int z_38), (5, .int z_30), (2, .int z_2), (0, .ref h0), (1, .int x1)]) hx hb dX2_measure_99 hl (by decide +kernel) rfl (fun ls hl => ?_)
      refine lv_iload hx hb dX2_measure_101 (lv_at hl 2 rfl) ?_
      refine lv_aload_n hx hb dX2_measure_103 rfl (lv_at hl 4 rfl) ?_
      refine va_get (D := D) (ci := 1) (v := .ref c7) (C := RX2) (T := TX2) (N := 8) hx hb hts in_X2_measure_X2 hown hE.1 hP 0 rfl rfl 7 (by decide +kernel) (hts (.fieldLink RX2 34 "ClauseBook$Clauses" "deep" "[I") (List.mem_of_getElem? (i := 5) rfl)) (fun _ h9 => h9) rfl dX2_measure_104 ?_
      refine lv_aload_n hx hb dX2_measure_107 rfl (lv_at hl 4 rfl) ?_
      refine va_get (D := D) (ci := 1) (v := .ref c4) (C := RX2) (T := TX2) (N := 8) hx hb hts in_X2_measure_X2 hown hE.1 hP 0 rfl rfl 4 (by decide +kernel) (hts (.fieldLink RX2 25 "ClauseBook$Clauses" "d" "[I") (List.mem_of_getElem? (i := 6) rfl)) (fun _ h9 => h9) rfl dX2_measure_108 ?_
      refine lv_iload_n hx hb dX2_measure_111 rfl (lv_at hl 5 rfl) ?_
      refine va_iald hx hb hE.1 hP 4 0 rfl rfl (by rw [vp_in_iff]; first | omega | (subst_vars; omega)) dX2_measure_112 ?_
      refine lv_topi (fun z_42 ez_42 => ?_)
      refine va_iald hx hb hE.1 hP 7 0 rfl rfl (by rw [vp_in_iff]; first | omega | (subst_vars; omega)) dX2_measure_113 ?_
      refine lv_topi (fun z_43 ez_43 => ?_)
      refine va_mmax hx hb (hml.trans hl.1.symm) hown (hts (.methodLink RX2 62 Lib.Math.max.name) (List.mem_of_getElem? (i := 7) rfl)) (hts (.static Lib.Math.max.name) (List.mem_of_getElem? (i := 8) rfl)) (hts (.initialized "java/lang/Math") (List.mem_of_getElem? (i := 9) rfl)) (hts (.code Lib.Math.max.name Lib.Math.max.code 2 (some .int)) (List.mem_of_getElem? (i := 10) rfl)) (Nat.le_of_ble_eq_true rfl) (Nat.le_of_ble_eq_true rfl) (Nat.le_of_ble_eq_true rfl) (Nat.le_of_ble_eq_true rfl) dX2_measure_114 ?_
      refine lv_topi (fun z_44 ez_44 => ?_)
      refine lv_istore (lv' := [(5, .int z_44), (4, .int z_41), (3, .int z_38), (2, .int z_2), (0, .ref h0), (1, .int x1)]) hx hb dX2_measure_117 hl (by decide +kernel) rfl (fun ls hl => ?_)
      refine lv_aload_n hx hb dX2_measure_119 rfl (lv_at hl 4 rfl) ?_
      refine lv_iload_n hx hb dX2_measure_120 rfl (lv_at hl 5 rfl) ?_
      refine va_cse (W.runV (As := [.int x1]) (rest := []) ⟨hx, hb, hml, hown, hts⟩ (c_X2_kindOf l D T ad sa av ta h0 [.int n0, .ref c1, .ref c2, .ref c3, .ref c4, .ref c5, .ref c6, .ref c7] c1 f1 x1 rfl (by omega) ((hok _ (in24 (x := x1) (by omega)).1).1)) (cwV 1 hts gX2_measure_X2_kindOf rfl rfl rfl hv_X2_kindOf ⟨Nat.le_of_ble_eq_true rfl, Nat.le_of_ble_eq_true rfl⟩) (pRk_V (q := (RX2, TX2, 8)) (ci := 1) (q0 := 0) hP hE hV hS rfl rfl [0, 1] rfl) rfl rfl hl.1 rfl (lv_room (Nat.le_of_ble_eq_true rfl)) dX2_measure_121 ⟨Nat.le_of_ble_eq_true rfl, Nat.le_of_ble_eq_true rfl⟩) (fun r_45 hr_45 => ?_)
      subst hr_45
      refine W.eq (g2 := F0 m 124 ls [.ref (ad ((f1 (x1.toNatClampNeg)).toNatClampNeg))]) rfl ?_
      refine va_gets (v := .ref (ad 8)) hx hb (hV.1.1.1 8 (by decide +kernel)).1 hS hown (hts (.fieldLink RX2 68 "ClauseBook$Kind" "UNTIL" "LClauseBook$Kind;") (List.mem_of_getElem? (i := 11) rfl)) (fun _ h9 => h9) dX2_measure_124 ?_
      refine lv_acmp_ne (rx := some (ad ((f1 (x1.toNatClampNeg)).toNatClampNeg))) (ry := some (ad 8)) (tgt := 141) hx hb dX2_measure_127 (by decide +kernel) (fun c_46 => ?_) (fun c_46 => ?_)
      · refine lv_aload_n hx hb dX2_measure_141 rfl (lv_at hl 4 rfl) ?_
        refine va_get (D := D) (ci := 1) (v := .ref c5) (C := RX2) (T := TX2) (N := 8) hx hb hts in_X2_measure_X2 hown hE.1 hP 0 rfl rfl 5 (by decide +kernel) (hts (.fieldLink RX2 28 "ClauseBook$Clauses" "end" "[I") (List.mem_of_getElem? (i := 2) rfl)) (fun _ h9 => h9) rfl dX2_measure_142 ?_
        refine lv_iload_n hx hb dX2_measure_145 rfl (lv_at hl 5 rfl) ?_
        refine lv_iload_n hx hb dX2_measure_146 rfl (lv_at hl 2 rfl) ?_
        refine va_iast hx hb hE.1 hP hD hS 5 0 rfl rfl (by rw [vp_in_iff]; first | omega | (subst_vars; omega)) dX2_measure_147 (fun H locs hP hD hS => ?_)
        obtain ⟨hP, hD⟩ := wPD [(h0, .inr (1, [.int n0, .ref c1, .ref c2, .ref c3, .ref c4, .ref c5, .ref c6, .ref c7])), (c1, .inl (T 0, 24, .inl f1)), (c2, .inl (T 0, 24, .inl f2)), (c3, .inl (T 0, 24, .inl f3)), (c4, .inl (T 0, 24, .inl f4)), (c5, .inl (T 0, 24, .inl (upd f5 (x1.toNatClampNeg) z_38))), (c6, .inl (T 0, 24, .inl f6)), (c7, .inl (T 0, 24, .inl f7))] hP hD rfl
        refine lv_aload_n hx hb dX2_measure_148 rfl (lv_at hl 4 rfl) ?_
        refine va_get (D := D) (ci := 1) (v := .ref c6) (C := RX2) (T := TX2) (N := 8) hx hb hts in_X2_measure_X2 hown hE.1 hP 0 rfl rfl 6 (by decide +kernel) (hts (.fieldLink RX2 31 "ClauseBook$Clauses" "made" "[I") (List.mem_of_getElem? (i := 4) rfl)) (fun _ h9 => h9) rfl dX2_measure_149 ?_
        refine lv_iload_n hx hb dX2_measure_152 rfl (lv_at hl 5 rfl) ?_
        refine lv_iload hx hb dX2_measure_153 (lv_at hl 1 rfl) ?_
        refine va_iast hx hb hE.1 hP hD hS 6 0 rfl rfl (by rw [vp_in_iff]; first | omega | (subst_vars; omega)) dX2_measure_155 (fun H locs hP hD hS => ?_)
        obtain ⟨hP, hD⟩ := wPD [(h0, .inr (1, [.int n0, .ref c1, .ref c2, .ref c3, .ref c4, .ref c5, .ref c6, .ref c7])), (c1, .inl (T 0, 24, .inl f1)), (c2, .inl (T 0, 24, .inl f2)), (c3, .inl (T 0, 24, .inl f3)), (c4, .inl (T 0, 24, .inl f4)), (c5, .inl (T 0, 24, .inl (upd f5 (x1.toNatClampNeg) z_38))), (c6, .inl (T 0, 24, .inl (upd f6 (x1.toNatClampNeg) z_41))), (c7, .inl (T 0, 24, .inl f7))] hP hD rfl
        refine lv_aload_n hx hb dX2_measure_156 rfl (lv_at hl 4 rfl) ?_
        refine va_get (D := D) (ci := 1) (v := .ref c7) (C := RX2) (T := TX2) (N := 8) hx hb hts in_X2_measure_X2 hown hE.1 hP 0 rfl rfl 7 (by decide +kernel) (hts (.fieldLink RX2 34 "ClauseBook$Clauses" "deep" "[I") (List.mem_of_getElem? (i := 5) rfl)) (fun _ h9 => h9) rfl dX2_measure_157 ?_
        refine lv_iload_n hx hb dX2_measure_160 rfl (lv_at hl 5 rfl) ?_
        refine lv_iload hx hb dX2_measure_161 (lv_at hl 0 rfl) ?_
        refine lv_iconst (v := 1) hx hb dX2_measure_163 (by decide +kernel) ?_
        refine lv_iadd hx hb dX2_measure_164 ?_
        refine va_iast hx hb hE.1 hP hD hS 7 0 rfl rfl (by rw [vp_in_iff]; first | omega | (subst_vars; omega)) dX2_measure_165 (fun H locs hP hD hS => ?_)
        obtain ⟨hP, hD⟩ := wPD [(h0, .inr (1, [.int n0, .ref c1, .ref c2, .ref c3, .ref c4, .ref c5, .ref c6, .ref c7])), (c1, .inl (T 0, 24, .inl f1)), (c2, .inl (T 0, 24, .inl f2)), (c3, .inl (T 0, 24, .inl f3)), (c4, .inl (T 0, 24, .inl f4)), (c5, .inl (T 0, 24, .inl (upd f5 (x1.toNatClampNeg) z_38))), (c6, .inl (T 0, 24, .inl (upd f6 (x1.toNatClampNeg) z_41))), (c7, .inl (T 0, 24, .inl (upd f7 (x1.toNatClampNeg) (z_44 + 1))))] hP hD rfl
        exact W.vret hx hb hr (fun t ht hW => ⟨⟨((upd f5 (x1.toNatClampNeg) z_38), (upd f6 (x1.toNatClampNeg) z_41), (upd f7 (x1.toNatClampNeg) (z_44 + 1))), rfl, ⟨(fun j hj => by
        show ((upd f5 (x1.toNatClampNeg) z_38) j).toInt ≤ 6
        by_cases hjx : j = x1.toNatClampNeg
        · simp only [upd, if_pos hjx]; first | omega | decide
        · simp only [upd, if_neg hjx]; exact (hok j hj).2.2.2), ⟨_, _, _, rfl, rfl, rfl, (mesE_no (fun e9 => c_46 (by rw [e9])) (endB_2 (by rw [← ez_2]; omega) ez_38 ez_25 ez_24 ez_37 ez_36)), (mesM_2 (by rw [← ez_2]; omega) ez_41 ez_28 ez_27 ez_26 ez_40 ez_39), (mesD_2 (by rw [← ez_2]; omega) ez_44 ez_30 ez_29 ez_43 ez_42)⟩⟩, by rw [ht]; exact hP.sub [0, 1, 2, 3, 4, 5, 6, 7] rfl, hD.sub [0, 1, 2, 3, 4, 5, 6, 7] (by decide +kernel) rfl⟩, hS.F ht⟩) hS.2.2 dX2_measure_166
      · refine lv_iload_n hx hb dX2_measure_130 rfl (lv_at hl 2 rfl) ?_
        refine lv_aload_n hx hb dX2_measure_131 rfl (lv_at hl 4 rfl) ?_
        refine va_get (D := D) (ci := 1) (v := .ref c2) (C := RX2) (T := TX2) (N := 8) hx hb hts in_X2_measure_X2 hown hE.1 hP 0 rfl rfl 2 (by decide +kernel) (hts (.fieldLink RX2 19 "ClauseBook$Clauses" "n" "[I") (List.mem_of_getElem? (i := 12) rfl)) (fun _ h9 => h9) rfl dX2_measure_132 ?_
        refine lv_iload_n hx hb dX2_measure_135 rfl (lv_at hl 5 rfl) ?_
        refine va_iald hx hb hE.1 hP 2 0 rfl rfl (by rw [vp_in_iff]; first | omega | (subst_vars; omega)) dX2_measure_136 ?_
        refine lv_topi (fun z_47 ez_47 => ?_)
        refine va_mmin hx hb (hml.trans hl.1.symm) hown (hts (.methodLink RX2 72 Lib.Math.min.name) (List.mem_of_getElem? (i := 13) rfl)) (hts (.static Lib.Math.min.name) (List.mem_of_getElem? (i := 14) rfl)) (hts (.initialized "java/lang/Math") (List.mem_of_getElem? (i := 9) rfl)) (hts (.code Lib.Math.min.name Lib.Math.min.code 2 (some .int)) (List.mem_of_getElem? (i := 15) rfl)) (Nat.le_of_ble_eq_true rfl) (Nat.le_of_ble_eq_true rfl) (Nat.le_of_ble_eq_true rfl) (Nat.le_of_ble_eq_true rfl) dX2_measure_137 ?_
        refine lv_topi (fun z_48 ez_48 => ?_)
        have h6z_48 : z_48.toInt ≤ 6 := by
          rw [ez_48]
          have h66 := ti_6
          split
          · rename_i h
            rw [fa_lt] at h
            omega
          · omega
        refine lv_istore_n (lv' := [(3, .int z_48), (5, .int z_44), (4, .int z_41), (2, .int z_2), (0, .ref h0), (1, .int x1)]) hx hb dX2_measure_140 rfl hl (by decide +kernel) rfl (fun ls hl => ?_)
        refine lv_aload_n hx hb dX2_measure_141 rfl (lv_at hl 4 rfl) ?_
        refine va_get (D := D) (ci := 1) (v := .ref c5) (C := RX2) (T := TX2) (N := 8) hx hb hts in_X2_measure_X2 hown hE.1 hP 0 rfl rfl 5 (by decide +kernel) (hts (.fieldLink RX2 28 "ClauseBook$Clauses" "end" "[I") (List.mem_of_getElem? (i := 2) rfl)) (fun _ h9 => h9) rfl dX2_measure_142 ?_
        refine lv_iload_n hx hb dX2_measure_145 rfl (lv_at hl 5 rfl) ?_
        refine lv_iload_n hx hb dX2_measure_146 rfl (lv_at hl 0 rfl) ?_
        refine va_iast hx hb hE.1 hP hD hS 5 0 rfl rfl (by rw [vp_in_iff]; first | omega | (subst_vars; omega)) dX2_measure_147 (fun H locs hP hD hS => ?_)
        obtain ⟨hP, hD⟩ := wPD [(h0, .inr (1, [.int n0, .ref c1, .ref c2, .ref c3, .ref c4, .ref c5, .ref c6, .ref c7])), (c1, .inl (T 0, 24, .inl f1)), (c2, .inl (T 0, 24, .inl f2)), (c3, .inl (T 0, 24, .inl f3)), (c4, .inl (T 0, 24, .inl f4)), (c5, .inl (T 0, 24, .inl (upd f5 (x1.toNatClampNeg) z_48))), (c6, .inl (T 0, 24, .inl f6)), (c7, .inl (T 0, 24, .inl f7))] hP hD rfl
        refine lv_aload_n hx hb dX2_measure_148 rfl (lv_at hl 4 rfl) ?_
        refine va_get (D := D) (ci := 1) (v := .ref c6) (C := RX2) (T := TX2) (N := 8) hx hb hts in_X2_measure_X2 hown hE.1 hP 0 rfl rfl 6 (by decide +kernel) (hts (.fieldLink RX2 31 "ClauseBook$Clauses" "made" "[I") (List.mem_of_getElem? (i := 4) rfl)) (fun _ h9 => h9) rfl dX2_measure_149 ?_
        refine lv_iload_n hx hb dX2_measure_152 rfl (lv_at hl 5 rfl) ?_
        refine lv_iload hx hb dX2_measure_153 (lv_at hl 2 rfl) ?_
        refine va_iast hx hb hE.1 hP hD hS 6 0 rfl rfl (by rw [vp_in_iff]; first | omega | (subst_vars; omega)) dX2_measure_155 (fun H locs hP hD hS => ?_)
        obtain ⟨hP, hD⟩ := wPD [(h0, .inr (1, [.int n0, .ref c1, .ref c2, .ref c3, .ref c4, .ref c5, .ref c6, .ref c7])), (c1, .inl (T 0, 24, .inl f1)), (c2, .inl (T 0, 24, .inl f2)), (c3, .inl (T 0, 24, .inl f3)), (c4, .inl (T 0, 24, .inl f4)), (c5, .inl (T 0, 24, .inl (upd f5 (x1.toNatClampNeg) z_48))), (c6, .inl (T 0, 24, .inl (upd f6 (x1.toNatClampNeg) z_41))), (c7, .inl (T 0, 24, .inl f7))] hP hD rfl
        refine lv_aload_n hx hb dX2_measure_156 rfl (lv_at hl 4 rfl) ?_
        refine va_get (D := D) (ci := 1) (v := .ref c7) (C := RX2) (T := TX2) (N := 8) hx hb hts in_X2_measure_X2 hown hE.1 hP 0 rfl rfl 7 (by decide +kernel) (hts (.fieldLink RX2 34 "ClauseBook$Clauses" "deep" "[I") (List.mem_of_getElem? (i := 5) rfl)) (fun _ h9 => h9) rfl dX2_measure_157 ?_
        refine lv_iload_n hx hb dX2_measure_160 rfl (lv_at hl 5 rfl) ?_
        refine lv_iload hx hb dX2_measure_161 (lv_at hl 1 rfl) ?_
        refine lv_iconst (v := 1) hx hb dX2_measure_163 (by decide +kernel) ?_
        refine lv_iadd hx hb dX2_measure_164 ?_
        refine va_iast hx hb hE.1 hP hD hS 7 0 rfl rfl (by rw [vp_in_iff]; first | omega | (subst_vars; omega)) dX2_measure_165 (fun H locs hP hD hS => ?_)
        obtain ⟨hP, hD⟩ := wPD [(h0, .inr (1, [.int n0, .ref c1, .ref c2, .ref c3, .ref c4, .ref c5, .ref c6, .ref c7])), (c1, .inl (T 0, 24, .inl f1)), (c2, .inl (T 0, 24, .inl f2)), (c3, .inl (T 0, 24, .inl f3)), (c4, .inl (T 0, 24, .inl f4)), (c5, .inl (T 0, 24, .inl (upd f5 (x1.toNatClampNeg) z_48))), (c6, .inl (T 0, 24, .inl (upd f6 (x1.toNatClampNeg) z_41))), (c7, .inl (T 0, 24, .inl (upd f7 (x1.toNatClampNeg) (z_44 + 1))))] hP hD rfl
        exact W.vret hx hb hr (fun t ht hW => ⟨⟨((upd f5 (x1.toNatClampNeg) z_48), (upd f6 (x1.toNatClampNeg) z_41), (upd f7 (x1.toNatClampNeg) (z_44 + 1))), rfl, ⟨(fun j hj => by
        show ((upd f5 (x1.toNatClampNeg) z_48) j).toInt ≤ 6
        by_cases hjx : j = x1.toNatClampNeg
        · simp only [upd, if_pos hjx]; first | omega | decide
        · simp only [upd, if_neg hjx]; exact (hok j hj).2.2.2), ⟨_, _, _, rfl, rfl, rfl, (mesE_yes (hV.1.1.2 _ 8 (in13c ((hok _ (in24 (x := x1) (by omega)).1).1)) (by decide +kernel) (Option.some.inj c_46)) (endB_2 (by rw [← ez_2]; omega) ez_38 ez_25 ez_24 ez_37 ez_36) ez_48 ez_47), (mesM_2 (by rw [← ez_2]; omega) ez_41 ez_28 ez_27 ez_26 ez_40 ez_39), (mesD_2 (by rw [← ez_2]; omega) ez_44 ez_30 ez_29 ez_43 ez_42)⟩⟩, by rw [ht]; exact hP.sub [0, 1, 2, 3, 4, 5, 6, 7] rfl, hD.sub [0, 1, 2, 3, 4, 5, 6, 7] (by decide +kernel) rfl⟩, hS.F ht⟩) hS.2.2 dX2_measure_166
