/-! the reference's worths, laid clause by clause, from the last day back -/
/-- the first n clauses: kinds, names ahead, ends -/
def okX (fk fc fd fe : Nat → Int32) (n : Int) : Prop := ∀ j : Nat, (j : Int) < n → (0 ≤ (fk j).toInt ∧ (fk j).toInt ≤ 12) ∧ (1 ≤ (nmT (fk j).toNatClampNeg).toInt → 0 ≤ (fc j).toInt ∧ (fc j).toInt < j) ∧ ((nmT (fk j).toNatClampNeg).toInt = 2 → 0 ≤ (fd j).toInt ∧ (fd j).toInt < j) ∧ (fe j).toInt ≤ 6
theorem okX_of {fk fc fd fe : Nat → Int32} {n : Int} (h : okR fk fc fd) (e : okE fk fc fe n) (hn : n ≤ 24) : okX fk fc fd fe n := fun j hj => ⟨(h j (by omega)).1, (h j (by omega)).2.1, (h j (by omega)).2.2, (e j hj).1⟩
theorem valF_succX {l fk fn fc fd fe : Nat → Int32} {n : Int} (hok : okX fk fc fd fe n) (hn : n ≤ 24) : ∀ (d : Nat) (x t k : Int32), 0 ≤ x.toInt ∧ x.toInt < n → 0 ≤ t.toInt ∧ t.toInt ≤ 6 → x.toInt + (6 - t.toInt) < d → valF l fk fn fc fd fe (d + 1) x t k = valF l fk fn fc fd fe d x t k
  | 0, x, t, k, hx, ht, hd => by omega
  | d + 1, x, t, k, hx, ht, hd => by
    have ih := valF_succX (l := l) (fn := fn) hok hn d
    have h1 := tn hx.1
    obtain ⟨o1, o2, o3, o4⟩ := hok x.toNatClampNeg (by omega)
    have h2 := tn o1.1
    show stepW l fk fn fc fd fe (valF l fk fn fc fd fe (d + 1)) x t k = stepW l fk fn fc fd fe (valF l fk fn fc fd fe d) x t k
    refine step_ext (fun _ _ => rfl) (by omega) rfl rfl rfl o4 (fun q => ?_) (fun q => ?_) (fun q => ?_)
    · have c := o2 q
      exact ⟨rfl, rfl, ih _ _ _ ⟨c.1, by omega⟩ ht (by omega)⟩
    · have c := o3 q
      exact ⟨rfl, rfl, ih _ _ _ ⟨c.1, by omega⟩ ht (by omega)⟩
    · have e := inc1 (i := t) (n := 6) q (by decide +kernel)
      exact ⟨ih _ _ _ hx ⟨by omega, by omega⟩ (by omega), ih _ _ _ hx ⟨by omega, by omega⟩ (by omega)⟩
theorem VALX_step {l fk fn fc fd fe : Nat → Int32} {n : Int} (hok : okX fk fc fd fe n) (hn : n ≤ 24) {x t k : Int32} (hx : 0 ≤ x.toInt ∧ x.toInt < n) (ht : 0 ≤ t.toInt ∧ t.toInt ≤ 6) : VALW l fk fn fc fd fe x t k = stepW l fk fn fc fd fe (VALW l fk fn fc fd fe) x t k := (valF_succX hok hn 31 x t k hx ht (by omega)).symm
/-- laid so far: all of the clauses ahead of x; of x the days behind d, of day d the first k spots -/
def layJ (VV T : vaF) (x d k : Int) : Prop := ∀ y t s : Int32, spK t s → 0 ≤ y.toInt → (y.toInt < x ∨ (y.toInt = x ∧ (d < t.toInt ∨ (t.toInt = d ∧ s.toInt < k)))) → T y t s = VV y t s
theorem layJ_0 {VV T : vaF} : layJ VV T 0 6 0 := fun y t s h h0 h1 => by
  exfalso
  obtain ⟨⟨a, b⟩, c, d⟩ := h
  omega
theorem layJ_row {VV T : vaF} {x d k : Int} (h : layJ VV T x d k) (hk : d < k) : layJ VV T x (d - 1) 0 := fun y t s g h0 h1 => by
  have g2 := g
  obtain ⟨⟨a, b⟩, c, e⟩ := g2
  exact h y t s g h0 (by omega)
theorem layJ_cl {VV T : vaF} {x d : Int} (h : layJ VV T x d 0) (hd : d < 0) : layJ VV T (x + 1) 6 0 := fun y t s g h0 h1 => by
  have g2 := g
  obtain ⟨⟨a, b⟩, c, e⟩ := g2
  exact h y t s g h0 (by omega)
theorem layJ_put {VV T T' : vaF} {x d k : Int32} (h : layJ VV T x.toInt d.toInt k.toInt) (hne : ∀ y t s : Int32, spK t s → 0 ≤ y.toInt → y.toInt ≤ x.toInt → ¬ (y = x ∧ t = d ∧ s = k) → T' y t s = T y t s) (hv : T' x d k = VV x d k) : layJ VV T' x.toInt d.toInt (k.toInt + 1) := fun y t s g h0 h1 => by
  by_cases e : y = x ∧ t = d ∧ s = k
  · obtain ⟨rfl, rfl, rfl⟩ := e
    exact hv
  · have e2 : ¬ (y.toInt = x.toInt ∧ t.toInt = d.toInt ∧ s.toInt = k.toInt) := fun q => e ⟨Int32.toInt_inj.1 q.1, Int32.toInt_inj.1 q.2.1, Int32.toInt_inj.1 q.2.2⟩
    rw [hne y t s g h0 (by omega) e]
    exact h y t s g h0 (by omega)
theorem layJ_end {VV T : vaF} {x : Int} (h : layJ VV T x 6 0) {y t s : Int32} (g : spK t s) (h0 : 0 ≤ y.toInt) (h1 : y.toInt < x) : T y t s = VV y t s := h y t s g h0 (Or.inl h1)
theorem lay_val {l fk fn fc fd fe : Nat → Int32} {n : Int} {T : vaF} {x t k : Int32} (hok : okX fk fc fd fe n) (hn : n ≤ 24) (h : layJ (VALW l fk fn fc fd fe) T x.toInt t.toInt k.toInt) (hx : 0 ≤ x.toInt ∧ x.toInt < n) (ht : spK t k) : stepW l fk fn fc fd fe T x t k = VALW l fk fn fc fd fe x t k := by
  refine Eq.trans ?_ (VALX_step hok hn hx ht.1).symm
  have h1 := tn hx.1
  obtain ⟨o1, o2, o3, o4⟩ := hok x.toNatClampNeg (by omega)
  have h2 := tn o1.1
  have ht2 := ht
  obtain ⟨⟨a1, a2⟩, a3, a4⟩ := ht2
  refine step_ext (fun _ _ => rfl) (by omega) rfl rfl rfl o4 (fun q => ?_) (fun q => ?_) (fun q => ?_)
  · have c := o2 q
    exact ⟨rfl, rfl, h _ t k ht c.1 (Or.inl (by omega))⟩
  · have c := o3 q
    exact ⟨rfl, rfl, h _ t k ht c.1 (Or.inl (by omega))⟩
  · have e := inc1 (i := t) (n := 6) q (by decide +kernel)
    have e2 := inc1 (i := k) (n := 6) (by omega) (by decide +kernel)
    exact ⟨h x (t + 1) (k + 1) ⟨⟨by omega, by omega⟩, by omega, by omega⟩ hx.1 (Or.inr ⟨rfl, Or.inl (by omega)⟩), h x (t + 1) k ⟨⟨by omega, by omega⟩, by omega, by omega⟩ hx.1 (Or.inr ⟨rfl, Or.inl (by omega)⟩)⟩
/-- what is read of the table is in lowest terms -/
def lowS (T : vaF) (x t k : Int32) : Prop := (∀ y : Int32, 0 ≤ y.toInt → y.toInt < x.toInt → lowW (T y t k)) ∧ (t.toInt < 6 → lowW (T x (t + 1) (k + 1)) ∧ lowW (T x (t + 1) k))
theorem lay_low {l fk fn fc fd fe : Nat → Int32} {T : vaF} {x t k : Int32} (hl : (1 ≤ (l 4).toInt ∧ (l 4).toInt ≤ 9) ∧ 1 ≤ (l 6).toInt ∧ (l 6).toInt ≤ 9) (h : layJ (VALW l fk fn fc fd fe) T x.toInt t.toInt k.toInt) (hx : 0 ≤ x.toInt) (ht : spK t k) : lowS T x t k := by
  have ht2 := ht
  obtain ⟨⟨a1, a2⟩, a3, a4⟩ := ht2
  refine ⟨fun y b1 b2 => ?_, fun q => ?_⟩
  · rw [h y t k ht b1 (Or.inl b2)]
    exact VAL_low hl.1 hl.2 31 _ _ _
  · have e := inc1 (i := t) (n := 6) q (by decide +kernel)
    have e2 := inc1 (i := k) (n := 6) (by omega) (by decide +kernel)
    rw [h x (t + 1) (k + 1) ⟨⟨by omega, by omega⟩, by omega, by omega⟩ hx (Or.inr ⟨rfl, Or.inl (by omega)⟩), h x (t + 1) k ⟨⟨by omega, by omega⟩, by omega, by omega⟩ hx (Or.inr ⟨rfl, Or.inl (by omega)⟩)]
    exact ⟨VAL_low hl.1 hl.2 31 _ _ _, VAL_low hl.1 hl.2 31 _ _ _⟩
theorem avg_low {l : Nat → Int32} {T : vaF} {x t k : Int32} (hl : (1 ≤ (l 4).toInt ∧ (l 4).toInt ≤ 9) ∧ 1 ≤ (l 6).toInt ∧ (l 6).toInt ≤ 9) (h : lowW (T x (t + 1) (k + 1)) ∧ lowW (T x (t + 1) k)) : lowW (avgW l T x t k) := mulW_low (addW_low (mulW_low h.1 (by decide +kernel)) (mulW_low h.2 (by decide +kernel))) (wt_pos hl.1 hl.2)
/-! the table, as values are put there -/
theorem mp_any {b : Int32} {v w v' w' : Int64} (h : ¬ b.toInt = 0) : mpW b v w = mpW b v' w' := by rw [mp_n h, mp_n h]
theorem mp_nar {b : Int32} {v w : Int64} (h : isB b) : mpW (vp_nar .boolean b) v w = mpW b v w := by
  unfold mpW
  rw [(isB.n h).2]
theorem upd_at9 {f : Nat → Int32} {k : Nat} {v : Int32} : upd f k v k = v := by simp only [upd, if_pos]
theorem tab_put {g20 g21 : Nat → Int64} {g22 : Nat → Int32} {x t k : Int32} {s : Nat} {b : Int32} {v w : Int64} {p : Int64 × Int64} (hs : s = slN x t k) (hb : isB b) (h : mpW b v w = p) : tabW (vp_updL g20 s v) (vp_updL g21 s w) (upd g22 s (vp_nar .boolean b)) x t k = p := by
  show mpW (upd g22 s (vp_nar .boolean b) (slN x t k)) (vp_updL g20 s v (slN x t k)) (vp_updL g21 s w (slN x t k)) = p
  rw [← hs, upd_at9, updL_at, updL_at, mp_nar hb]
  exact h
theorem tab_ne {g20 g21 : Nat → Int64} {g22 : Nat → Int32} {x d k : Int32} {s0 : Nat} {b : Int32} {v w : Int64} (hs : s0 = slN x d k) (hx : 0 ≤ x.toInt ∧ x.toInt < 24) (hd : spK d k) : ∀ y t s : Int32, spK t s → 0 ≤ y.toInt → y.toInt ≤ x.toInt → ¬ (y = x ∧ t = d ∧ s = k) → tabW (vp_updL g20 s0 v) (vp_updL g21 s0 w) (upd g22 s0 b) y t s = tabW g20 g21 g22 y t s := by
  intro y t s g h0 h1 hne
  have e : slN y t s ≠ s0 := fun e => hne (slN_inj ⟨h0, by omega⟩ g.1 g.2 hx hd.1 hd.2 (e.trans hs))
  show mpW (upd g22 s0 b (slN y t s)) (vp_updL g20 s0 v (slN y t s)) (vp_updL g21 s0 w (slN y t s)) = mpW (g22 (slN y t s)) (g20 (slN y t s)) (g21 (slN y t s))
  rw [updL_ne e, updL_ne e]
  simp only [upd, if_neg e]
theorem tab_mu {f20 f21 : Nat → Int64} {f22 : Nat → Int32} {x t k : Int32} (h : 1 ≤ (f21 (slN x t k)).toInt) : (tabW f20 f21 f22 x t k).2.toInt = 0 ↔ ¬ (f22 (slN x t k)).toInt = 0 := by
  show (mpW (f22 (slN x t k)) (f20 (slN x t k)) (f21 (slN x t k))).2.toInt = 0 ↔ _
  by_cases c : (f22 (slN x t k)).toInt = 0
  · rw [mp_y c]
    show (f21 (slN x t k)).toInt = 0 ↔ _
    omega
  · rw [mp_n c]
    exact ⟨fun _ => c, fun _ => by decide⟩
theorem tab_y {f20 f21 : Nat → Int64} {f22 : Nat → Int32} {x t k : Int32} (h : (f22 (slN x t k)).toInt = 0) : tabW f20 f21 f22 x t k = (f20 (slN x t k), f21 (slN x t k)) := mp_y h
theorem tab_n {f20 f21 : Nat → Int64} {f22 : Nat → Int32} {x t k : Int32} (h : ¬ (f22 (slN x t k)).toInt = 0) : tabW f20 f21 f22 x t k = (0, 0) := mp_n h
theorem red_01 : redW 0 1 = (0, 1) := by decide +kernel
theorem red_11 : redW 1 1 = (1, 1) := by decide +kernel
theorem mp_bec {b : Int32} {u v a c : Int64} {p : Int64 × Int64} (h0 : b.toInt = 0) (h : b.toInt = 0 → ((u, v) : Int64 × Int64) = redW a c) (e : redW a c = p) : mpW b u v = p := by rw [mp_y h0, h h0, e]
/-! which one, as the reference tells it -/
theorem n5_ne {z : Int32} (h : 0 ≤ z.toInt) : ¬ z = -5 := fun e => by
  rw [e] at h
  exact absurd h (by decide +kernel)
theorem bw_eq {p q : Int64 × Int64} (hp : lowW p) (hq : lowW q) (m : ¬ (p.2.toInt = 0 ∨ q.2.toInt = 0)) (c : cmpP p q = 0) : p = q := low_eq hp hq (fun h => m (Or.inl h)) (fun h => m (Or.inr h)) c
section
variable {l fk fn fc fd fe : Nat → Int32} {T : vaF} {x t k : Int32} {mp : Int64 × Int64}
theorem lc_2 (he : ¬ (fe x.toNatClampNeg).toInt < t.toInt) (hk : (fk x.toNatClampNeg).toNatClampNeg = 2) (h : mp = mulW (T (fc x.toNatClampNeg) t k) (-1) 1) : mp = stepW l fk fn fc fd fe T x t k := by
  rw [sw_2 he hk]
  exact h
theorem lc_3 (he : ¬ (fe x.toNatClampNeg).toInt < t.toInt) (hk : (fk x.toNatClampNeg).toNatClampNeg = 3) (h : mp = mulW (T (fc x.toNatClampNeg) t k) (fn x.toNatClampNeg).toInt64 1) : mp = stepW l fk fn fc fd fe T x t k := by
  rw [sw_3 he hk]
  exact h
theorem lc_4 (he : ¬ (fe x.toNatClampNeg).toInt < t.toInt) (hk : (fk x.toNatClampNeg).toNatClampNeg = 4) (h : mp = mulW (T (fc x.toNatClampNeg) t k) (prW l t k).toInt64 1) : mp = stepW l fk fn fc fd fe T x t k := by
  rw [sw_4 he hk]
  exact h
theorem lc_5 (he : ¬ (fe x.toNatClampNeg).toInt < t.toInt) (hk : (fk x.toNatClampNeg).toNatClampNeg = 5) (h : mp = addW (T (fc x.toNatClampNeg) t k) (T (fd x.toNatClampNeg) t k)) : mp = stepW l fk fn fc fd fe T x t k := by
  rw [sw_5 he hk]
  exact h
theorem lc_8 (he : ¬ (fe x.toNatClampNeg).toInt < t.toInt) (hk : (fk x.toNatClampNeg).toNatClampNeg = 8) (hcn : 0 ≤ (fc x.toNatClampNeg).toInt) (h : mp = T (fc x.toNatClampNeg) t k) : mp = stepW l fk fn fc fd fe T x t k := by
  rw [sw_p he (by omega), pk_8 hk, if_neg (n5_ne hcn)]
  exact h
theorem lc_12y (he : ¬ (fe x.toNatClampNeg).toInt < t.toInt) (hk : (fk x.toNatClampNeg).toNatClampNeg = 12) (c : (fn x.toNatClampNeg).toInt ≤ (prW l t k).toInt) (hcn : 0 ≤ (fc x.toNatClampNeg).toInt) (h : mp = T (fc x.toNatClampNeg) t k) : mp = stepW l fk fn fc fd fe T x t k := by
  rw [sw_p he (by omega), pk_12y hk c, if_neg (n5_ne hcn)]
  exact h
theorem lc_12n (he : ¬ (fe x.toNatClampNeg).toInt < t.toInt) (hk : (fk x.toNatClampNeg).toNatClampNeg = 12) (c : ¬ (fn x.toNatClampNeg).toInt ≤ (prW l t k).toInt) (hdn : 0 ≤ (fd x.toNatClampNeg).toInt) (h : mp = T (fd x.toNatClampNeg) t k) : mp = stepW l fk fn fc fd fe T x t k := by
  rw [sw_p he (by omega), pk_12n hk c, if_neg (n5_ne hdn)]
  exact h
theorem lc_d (he : ¬ (fe x.toNatClampNeg).toInt < t.toInt) (hk : (fk x.toNatClampNeg).toNatClampNeg = 6 ∨ (fk x.toNatClampNeg).toNatClampNeg = 7 ∨ (fk x.toNatClampNeg).toNatClampNeg = 9) (c : (fe (fc x.toNatClampNeg).toNatClampNeg).toInt < t.toInt) (hdn : 0 ≤ (fd x.toNatClampNeg).toInt) (h : mp = T (fd x.toNatClampNeg) t k) : mp = stepW l fk fn fc fd fe T x t k := by
  rw [sw_p he (by omega), pk_c (by omega) (by omega) c, if_neg (n5_ne hdn)]
  exact h
theorem lc_c (he : ¬ (fe x.toNatClampNeg).toInt < t.toInt) (hk : (fk x.toNatClampNeg).toNatClampNeg = 6 ∨ (fk x.toNatClampNeg).toNatClampNeg = 7 ∨ (fk x.toNatClampNeg).toNatClampNeg = 9) (c : ¬ (fe (fc x.toNatClampNeg).toNatClampNeg).toInt < t.toInt) (d : (fk x.toNatClampNeg).toNatClampNeg = 9 ∨ (fe (fd x.toNatClampNeg).toNatClampNeg).toInt < t.toInt) (hcn : 0 ≤ (fc x.toNatClampNeg).toInt) (h : mp = T (fc x.toNatClampNeg) t k) : mp = stepW l fk fn fc fd fe T x t k := by
  rw [sw_p he (by omega), pk_d (by omega) (by omega) c d, if_neg (n5_ne hcn)]
  exact h
theorem lc_b {s : Int} (he : ¬ (fe x.toNatClampNeg).toInt < t.toInt) (c : ¬ (fe (fc x.toNatClampNeg).toNatClampNeg).toInt < t.toInt) (d : ¬ (fe (fd x.toNatClampNeg).toNatClampNeg).toInt < t.toInt) (hcn : 0 ≤ (fc x.toNatClampNeg).toInt) (hdn : 0 ≤ (fd x.toNatClampNeg).toInt) (h1 : lowW (T (fc x.toNatClampNeg) t k)) (h2 : lowW (T (fd x.toNatClampNeg) t k)) (hs : ((fk x.toNatClampNeg).toNatClampNeg = 6 ∧ s = 1) ∨ ((fk x.toNatClampNeg).toNatClampNeg = 7 ∧ s = -1)) (h : mp = bestW (T (fc x.toNatClampNeg) t k) (T (fd x.toNatClampNeg) t k) s) : mp = stepW l fk fn fc fd fe T x t k := by
  rw [sw_p he (by omega), h]
  have h8 : ¬ (fk x.toNatClampNeg).toNatClampNeg = 8 := by omega
  have h12 : ¬ (fk x.toNatClampNeg).toNatClampNeg = 12 := by omega
  have hdd : ¬ ((fk x.toNatClampNeg).toNatClampNeg = 9 ∨ (fe (fd x.toNatClampNeg).toNatClampNeg).toInt < t.toInt) := by omega
  have ha := cmpP_anti (T (fc x.toNatClampNeg) t k) (T (fd x.toNatClampNeg) t k)
  unfold bestW
  by_cases m : (T (fc x.toNatClampNeg) t k).2.toInt = 0 ∨ (T (fd x.toNatClampNeg) t k).2.toInt = 0
  · rw [if_pos m, pk_m h8 h12 c hdd m, if_pos rfl]
  · rw [if_neg m]
    by_cases y : ((fk x.toNatClampNeg).toNatClampNeg = 6 ∧ 0 < cmpP (T (fd x.toNatClampNeg) t k) (T (fc x.toNatClampNeg) t k)) ∨ ((fk x.toNatClampNeg).toNatClampNeg ≠ 6 ∧ cmpP (T (fd x.toNatClampNeg) t k) (T (fc x.toNatClampNeg) t k) < 0)
    · rw [pk_y h8 h12 c hdd m y, if_neg (n5_ne hdn)]
      rcases hs with ⟨s1, rfl⟩ | ⟨s1, rfl⟩
      · rw [if_neg (by omega)]
      · rw [if_neg (by omega)]
    · rw [pk_n h8 h12 c hdd m y, if_neg (n5_ne hcn)]
      by_cases z : cmpP (T (fc x.toNatClampNeg) t k) (T (fd x.toNatClampNeg) t k) = 0
      · have e := bw_eq h1 h2 m z
        split
        · rfl
        · exact e.symm
      · rcases hs with ⟨s1, rfl⟩ | ⟨s1, rfl⟩
        · rw [if_pos (by omega)]
        · rw [if_pos (by omega)]
theorem lc_10n (he : ¬ (fe x.toNatClampNeg).toInt < t.toInt) (hk : (fk x.toNatClampNeg).toNatClampNeg = 10) (c : t.toInt = (fe x.toNatClampNeg).toInt) (h : mp = T (fc x.toNatClampNeg) t k) : mp = stepW l fk fn fc fd fe T x t k := by
  rw [sw_10 he hk, if_pos c]
  exact h
theorem lc_10m (he : ¬ (fe x.toNatClampNeg).toInt < t.toInt) (hk : (fk x.toNatClampNeg).toNatClampNeg = 10) (c : ¬ t.toInt = (fe x.toNatClampNeg).toInt) (h : mp = avgW l T x t k) : mp = stepW l fk fn fc fd fe T x t k := by
  rw [sw_10 he hk, if_neg c]
  exact h
theorem lc_11n (he : ¬ (fe x.toNatClampNeg).toInt < t.toInt) (hk : (fk x.toNatClampNeg).toNatClampNeg = 11) (c : t.toInt = (fe x.toNatClampNeg).toInt) (h : mp = T (fc x.toNatClampNeg) t k) : mp = stepW l fk fn fc fd fe T x t k := by
  rw [sw_11 he hk, if_pos c]
  exact h
theorem lc_11m (he : ¬ (fe x.toNatClampNeg).toInt < t.toInt) (hk : (fk x.toNatClampNeg).toNatClampNeg = 11) (c : ¬ t.toInt = (fe x.toNatClampNeg).toInt) (h1 : lowW (avgW l T x t k)) (h2 : lowW (T (fc x.toNatClampNeg) t k)) (h : mp = bestW (avgW l T x t k) (T (fc x.toNatClampNeg) t k) 1) : mp = stepW l fk fn fc fd fe T x t k := by
  rw [sw_11 he hk, if_neg c, h]
  have ha := cmpP_anti (avgW l T x t k) (T (fc x.toNatClampNeg) t k)
  unfold bestW maxW
  by_cases m : (avgW l T x t k).2.toInt = 0 ∨ (T (fc x.toNatClampNeg) t k).2.toInt = 0
  · rw [if_pos m, if_pos m]
  · rw [if_neg m, if_neg m]
    by_cases z : cmpP (avgW l T x t k) (T (fc x.toNatClampNeg) t k) = 0
    · have e := bw_eq h1 h2 m z
      rw [if_neg (by omega), if_neg (by omega)]
      exact e.symm
    · by_cases y : 0 < cmpP (avgW l T x t k) (T (fc x.toNatClampNeg) t k)
      · rw [if_pos (by omega), if_neg (by omega)]
      · rw [if_neg (by omega), if_pos (by omega)]
theorem lc_e (h : (fe x.toNatClampNeg).toInt < t.toInt) (e : mp = (0, 1)) : mp = stepW l fk fn fc fd fe T x t k := by rw [sw_e h, e]
theorem lc_0 (he : ¬ (fe x.toNatClampNeg).toInt < t.toInt) (hk : (fk x.toNatClampNeg).toNatClampNeg = 0) (e : mp = (0, 1)) : mp = stepW l fk fn fc fd fe T x t k := by rw [sw_0 he hk, e]
theorem lc_1 (he : ¬ (fe x.toNatClampNeg).toInt < t.toInt) (hk : (fk x.toNatClampNeg).toNatClampNeg = 1) (e : mp = (1, 1)) : mp = stepW l fk fn fc fd fe T x t k := by rw [sw_1 he hk, e]
end
