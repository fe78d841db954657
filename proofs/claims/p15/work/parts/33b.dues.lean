/-! what falls due, by fuel: on (a row of days), days (bits), much -/
abbrev duS : Type := (Nat → Int64) × Int32 × Int32
/-- one more falls due on day t -/
def entP (t : Int32) (m : Int64) (s s' : duS) : Prop := (fitA (s.1 t.toNatClampNeg) m → s' = (vp_updL s.1 t.toNatClampNeg (s.1 t.toNatClampNeg + m), s.2.1 ||| (1 <<< (t &&& 31)), s.2.2)) ∧ (¬ fitA (s.1 t.toNatClampNeg) m → ¬ s'.2.2.toInt = 0)
/-- v times as much -/
def duT (m v : Int64) (F : Int64 → Prop) (s' : duS) : Prop := (fitM m v → F (m * v)) ∧ (¬ fitM m v → ¬ s'.2.2.toInt = 0)
/-- had as it is taken, or as another one; told to be too much -/
def duR (r : Int32) (F : Int32 → Prop) (s' : duS) : Prop := (r.toInt = -5 → ¬ s'.2.2.toInt = 0) ∧ (¬ r.toInt = -5 → F r)
abbrev pkK (k : Nat) : Prop := k = 6 ∨ k = 7 ∨ k = 8 ∨ k = 9 ∨ k = 12
def falB (l fk fn fc fd fe : Nat → Int32) (V : vaF) (p : Int32) (G : Int32 → Int32 → Int64 → duS → duS → Prop) (x t : Int32) (m : Int64) (s s' : duS) : Prop :=
  ((fk x.toNatClampNeg).toNatClampNeg = 0 → s' = s) ∧
  ((fk x.toNatClampNeg).toNatClampNeg = 1 → entP t m s s') ∧
  ((fk x.toNatClampNeg).toNatClampNeg = 2 → duT m (-1) (fun v => G (fc x.toNatClampNeg) t v s s') s') ∧
  ((fk x.toNatClampNeg).toNatClampNeg = 3 → duT m (fn x.toNatClampNeg).toInt64 (fun v => G (fc x.toNatClampNeg) t v s s') s') ∧
  ((fk x.toNatClampNeg).toNatClampNeg = 4 → duT m (prW l t (spW p t)).toInt64 (fun v => G (fc x.toNatClampNeg) t v s s') s') ∧
  ((fk x.toNatClampNeg).toNatClampNeg = 5 → ∃ s1 : duS, G (fc x.toNatClampNeg) t m s s1 ∧ G (fd x.toNatClampNeg) t m s1 s') ∧
  ((fk x.toNatClampNeg).toNatClampNeg = 10 → G (fc x.toNatClampNeg) (fe x.toNatClampNeg) m s s') ∧
  ((fk x.toNatClampNeg).toNatClampNeg = 11 → ∃ r : Int32, takQ l fc V (fe x.toNatClampNeg).toInt x p t r ∧ duR r (fun r => G (fc x.toNatClampNeg) r m s s') s') ∧
  (pkK (fk x.toNatClampNeg).toNatClampNeg → duR (pickW l fk fn fc fd fe V x t (spW p t)) (fun r => G r t m s s') s')
def falP (l fk fn fc fd fe : Nat → Int32) (V : vaF) (p : Int32) : Nat → Int32 → Int32 → Int64 → duS → duS → Prop
  | 0, _, _, _, _, _ => True
  | d + 1, x, t, m, s, s' => (¬ s.2.2.toInt = 0 → ¬ s'.2.2.toInt = 0) ∧ (s.2.2.toInt = 0 → ((fe x.toNatClampNeg).toInt < t.toInt → s' = s) ∧ (¬ (fe x.toNatClampNeg).toInt < t.toInt → falB l fk fn fc fd fe V p (falP l fk fn fc fd fe V p d) x t m s s'))
section
variable {l fk fn fc fd fe : Nat → Int32} {V : vaF} {p : Int32} {d : Nat} {x t : Int32} {m : Int64} {s s' : duS}
theorem fal_ret (h : ¬ s.2.2.toInt = 0 ∨ (fe x.toNatClampNeg).toInt < t.toInt) : falP l fk fn fc fd fe V p (d + 1) x t m s s := by
  refine ⟨fun q => q, fun q => ⟨fun _ => rfl, fun q2 => ?_⟩⟩
  rcases h with h | h
  · exact absurd q h
  · exact absurd h q2
theorem fal_of (h0 : s.2.2.toInt = 0) (he : ¬ (fe x.toNatClampNeg).toInt < t.toInt) (h : falB l fk fn fc fd fe V p (falP l fk fn fc fd fe V p d) x t m s s') : falP l fk fn fc fd fe V p (d + 1) x t m s s' := ⟨fun q => absurd h0 q, fun _ => ⟨fun q => absurd q he, fun _ => h⟩⟩
theorem fal_0 (h0 : s.2.2.toInt = 0) (he : ¬ (fe x.toNatClampNeg).toInt < t.toInt) (k : (fk x.toNatClampNeg).toNatClampNeg = 0) : falP l fk fn fc fd fe V p (d + 1) x t m s s := fal_of h0 he ⟨fun _ => rfl, fun q => absurd (k.symm.trans q) (by decide +kernel), fun q => absurd (k.symm.trans q) (by decide +kernel), fun q => absurd (k.symm.trans q) (by decide +kernel), fun q => absurd (k.symm.trans q) (by decide +kernel), fun q => absurd (k.symm.trans q) (by decide +kernel), fun q => absurd (k.symm.trans q) (by decide +kernel), fun q => absurd (k.symm.trans q) (by decide +kernel), fun q => by unfold pkK at q; omega⟩
theorem fal_1 (h0 : s.2.2.toInt = 0) (he : ¬ (fe x.toNatClampNeg).toInt < t.toInt) (k : (fk x.toNatClampNeg).toNatClampNeg = 1) (h : entP t m s s') : falP l fk fn fc fd fe V p (d + 1) x t m s s' := fal_of h0 he ⟨fun q => absurd (k.symm.trans q) (by decide +kernel), fun _ => h, fun q => absurd (k.symm.trans q) (by decide +kernel), fun q => absurd (k.symm.trans q) (by decide +kernel), fun q => absurd (k.symm.trans q) (by decide +kernel), fun q => absurd (k.symm.trans q) (by decide +kernel), fun q => absurd (k.symm.trans q) (by decide +kernel), fun q => absurd (k.symm.trans q) (by decide +kernel), fun q => by unfold pkK at q; omega⟩
theorem fal_2 (h0 : s.2.2.toInt = 0) (he : ¬ (fe x.toNatClampNeg).toInt < t.toInt) (k : (fk x.toNatClampNeg).toNatClampNeg = 2) (h : duT m (-1) (fun v => falP l fk fn fc fd fe V p d (fc x.toNatClampNeg) t v s s') s') : falP l fk fn fc fd fe V p (d + 1) x t m s s' := fal_of h0 he ⟨fun q => absurd (k.symm.trans q) (by decide +kernel), fun q => absurd (k.symm.trans q) (by decide +kernel), fun _ => h, fun q => absurd (k.symm.trans q) (by decide +kernel), fun q => absurd (k.symm.trans q) (by decide +kernel), fun q => absurd (k.symm.trans q) (by decide +kernel), fun q => absurd (k.symm.trans q) (by decide +kernel), fun q => absurd (k.symm.trans q) (by decide +kernel), fun q => by unfold pkK at q; omega⟩
theorem fal_3 (h0 : s.2.2.toInt = 0) (he : ¬ (fe x.toNatClampNeg).toInt < t.toInt) (k : (fk x.toNatClampNeg).toNatClampNeg = 3) (h : duT m (fn x.toNatClampNeg).toInt64 (fun v => falP l fk fn fc fd fe V p d (fc x.toNatClampNeg) t v s s') s') : falP l fk fn fc fd fe V p (d + 1) x t m s s' := fal_of h0 he ⟨fun q => absurd (k.symm.trans q) (by decide +kernel), fun q => absurd (k.symm.trans q) (by decide +kernel), fun q => absurd (k.symm.trans q) (by decide +kernel), fun _ => h, fun q => absurd (k.symm.trans q) (by decide +kernel), fun q => absurd (k.symm.trans q) (by decide +kernel), fun q => absurd (k.symm.trans q) (by decide +kernel), fun q => absurd (k.symm.trans q) (by decide +kernel), fun q => by unfold pkK at q; omega⟩
theorem fal_4 (h0 : s.2.2.toInt = 0) (he : ¬ (fe x.toNatClampNeg).toInt < t.toInt) (k : (fk x.toNatClampNeg).toNatClampNeg = 4) (h : duT m (prW l t (spW p t)).toInt64 (fun v => falP l fk fn fc fd fe V p d (fc x.toNatClampNeg) t v s s') s') : falP l fk fn fc fd fe V p (d + 1) x t m s s' := fal_of h0 he ⟨fun q => absurd (k.symm.trans q) (by decide +kernel), fun q => absurd (k.symm.trans q) (by decide +kernel), fun q => absurd (k.symm.trans q) (by decide +kernel), fun q => absurd (k.symm.trans q) (by decide +kernel), fun _ => h, fun q => absurd (k.symm.trans q) (by decide +kernel), fun q => absurd (k.symm.trans q) (by decide +kernel), fun q => absurd (k.symm.trans q) (by decide +kernel), fun q => by unfold pkK at q; omega⟩
theorem fal_5 {s1 : duS} (h0 : s.2.2.toInt = 0) (he : ¬ (fe x.toNatClampNeg).toInt < t.toInt) (k : (fk x.toNatClampNeg).toNatClampNeg = 5) (h : falP l fk fn fc fd fe V p d (fc x.toNatClampNeg) t m s s1) (g : falP l fk fn fc fd fe V p d (fd x.toNatClampNeg) t m s1 s') : falP l fk fn fc fd fe V p (d + 1) x t m s s' := fal_of h0 he ⟨fun q => absurd (k.symm.trans q) (by decide +kernel), fun q => absurd (k.symm.trans q) (by decide +kernel), fun q => absurd (k.symm.trans q) (by decide +kernel), fun q => absurd (k.symm.trans q) (by decide +kernel), fun q => absurd (k.symm.trans q) (by decide +kernel), fun _ => ⟨s1, h, g⟩, fun q => absurd (k.symm.trans q) (by decide +kernel), fun q => absurd (k.symm.trans q) (by decide +kernel), fun q => by unfold pkK at q; omega⟩
theorem fal_10 (h0 : s.2.2.toInt = 0) (he : ¬ (fe x.toNatClampNeg).toInt < t.toInt) (k : (fk x.toNatClampNeg).toNatClampNeg = 10) (h : falP l fk fn fc fd fe V p d (fc x.toNatClampNeg) (fe x.toNatClampNeg) m s s') : falP l fk fn fc fd fe V p (d + 1) x t m s s' := fal_of h0 he ⟨fun q => absurd (k.symm.trans q) (by decide +kernel), fun q => absurd (k.symm.trans q) (by decide +kernel), fun q => absurd (k.symm.trans q) (by decide +kernel), fun q => absurd (k.symm.trans q) (by decide +kernel), fun q => absurd (k.symm.trans q) (by decide +kernel), fun q => absurd (k.symm.trans q) (by decide +kernel), fun _ => h, fun q => absurd (k.symm.trans q) (by decide +kernel), fun q => by unfold pkK at q; omega⟩
theorem fal_11 {r : Int32} (h0 : s.2.2.toInt = 0) (he : ¬ (fe x.toNatClampNeg).toInt < t.toInt) (k : (fk x.toNatClampNeg).toNatClampNeg = 11) (h : takQ l fc V (fe x.toNatClampNeg).toInt x p t r) (g : duR r (fun r => falP l fk fn fc fd fe V p d (fc x.toNatClampNeg) r m s s') s') : falP l fk fn fc fd fe V p (d + 1) x t m s s' := fal_of h0 he ⟨fun q => absurd (k.symm.trans q) (by decide +kernel), fun q => absurd (k.symm.trans q) (by decide +kernel), fun q => absurd (k.symm.trans q) (by decide +kernel), fun q => absurd (k.symm.trans q) (by decide +kernel), fun q => absurd (k.symm.trans q) (by decide +kernel), fun q => absurd (k.symm.trans q) (by decide +kernel), fun q => absurd (k.symm.trans q) (by decide +kernel), fun _ => ⟨r, h, g⟩, fun q => by unfold pkK at q; omega⟩
theorem fal_p (h0 : s.2.2.toInt = 0) (he : ¬ (fe x.toNatClampNeg).toInt < t.toInt) (k : pkK (fk x.toNatClampNeg).toNatClampNeg) (h : duR (pickW l fk fn fc fd fe V x t (spW p t)) (fun r => falP l fk fn fc fd fe V p d r t m s s') s') : falP l fk fn fc fd fe V p (d + 1) x t m s s' := fal_of h0 he (by
  unfold pkK at k
  exact ⟨fun q => by omega, fun q => by omega, fun q => by omega, fun q => by omega, fun q => by omega, fun q => by omega, fun q => by omega, fun q => by omega, fun _ => h⟩)
end
/-- told alike: too much on both sides, or on neither, and then the same -/
def duE (s s' : duS) : Prop := (s.2.2.toInt = 0 ↔ s'.2.2.toInt = 0) ∧ (s.2.2.toInt = 0 → s.2.1 = s'.2.1 ∧ ∀ j : Nat, j < 7 → s.1 j = s'.1 j)
theorem duE_mu {s s' : duS} (h : ¬ s.2.2.toInt = 0) (g : ¬ s'.2.2.toInt = 0) : duE s s' := ⟨⟨fun q => absurd q h, fun q => absurd q g⟩, fun q => absurd q h⟩
theorem ent_det {t : Int32} {m : Int64} {s u s' u' : duS} (ht : 0 ≤ t.toInt ∧ t.toInt ≤ 6) (h0 : s.2.2.toInt = 0) (E : duE s s') (a : entP t m s u) (b : entP t m s' u') : duE u u' := by
  have h0' := E.1.1 h0
  obtain ⟨e1, e2⟩ := E.2 h0
  have k := tn ht.1
  have e3 := e2 t.toNatClampNeg (by omega)
  by_cases f : fitA (s.1 t.toNatClampNeg) m
  · have ua := a.1 f
    have ub := b.1 (by rw [← e3]; exact f)
    subst ua
    subst ub
    refine ⟨⟨fun _ => h0', fun _ => h0⟩, fun _ => ⟨?_, fun j hj => ?_⟩⟩
    · show s.2.1 ||| _ = s'.2.1 ||| _
      rw [e1]
    · show vp_updL s.1 _ _ j = vp_updL s'.1 _ _ j
      simp only [vp_updL]
      by_cases q : j = t.toNatClampNeg
      · rw [if_pos q, if_pos q, e3]
      · rw [if_neg q, if_neg q, e2 j hj]
  · exact duE_mu (a.2 f) (b.2 (by rw [← e3]; exact f))
theorem fal_det {l fk fn fc fd fe : Nat → Int32} {V : vaF} {p : Int32} (hok : okC fk fc fd fe) : ∀ (d : Nat) (x t : Int32) (m : Int64) (s u s' u' : duS), (0 ≤ x.toInt ∧ x.toInt < 24) → x.toInt < d → (0 ≤ t.toInt ∧ t.toInt ≤ 6) → duE s s' → falP l fk fn fc fd fe V p d x t m s u → falP l fk fn fc fd fe V p d x t m s' u' → duE u u'
  | 0, x, t, m, s, u, s', u', hx, hd, ht, E, a, b => by omega
  | d + 1, x, t, m, s, u, s', u', hx, hd, ht, E, a, b => by
    have ih := fal_det (l := l) (fn := fn) (V := V) (p := p) hok d
    by_cases h0 : s.2.2.toInt = 0
    · have h0' := E.1.1 h0
      obtain ⟨a1, a2⟩ := a.2 h0
      obtain ⟨b1, b2⟩ := b.2 h0'
      by_cases he : (fe x.toNatClampNeg).toInt < t.toInt
      · rw [a1 he, b1 he]
        exact E
      · have a := a2 he
        have b := b2 he
        have k1 := tn hx.1
        obtain ⟨o1, o2, o3, o4⟩ := hok x.toNatClampNeg (by omega)
        have k2 := tn o1.1
        have T : ∀ (v : Int64) (y : Int32), 0 ≤ y.toInt ∧ y.toInt < x.toInt → duT m v (fun v => falP l fk fn fc fd fe V p d y t v s u) u → duT m v (fun v => falP l fk fn fc fd fe V p d y t v s' u') u' → duE u u' := fun v y hy A B => by
          by_cases f : fitM m v
          · exact ih y t (m * v) s u s' u' ⟨hy.1, by omega⟩ (by omega) ht E (A.1 f) (B.1 f)
          · exact duE_mu (A.2 f) (B.2 f)
        have hT := nmT_tab ⟨(fk x.toNatClampNeg).toNatClampNeg, by omega⟩
        have hT : (nmT (fk x.toNatClampNeg).toNatClampNeg).toInt = if (fk x.toNatClampNeg).toNatClampNeg < 2 then 0 else if (fk x.toNatClampNeg).toNatClampNeg = 5 ∨ (fk x.toNatClampNeg).toNatClampNeg = 6 ∨ (fk x.toNatClampNeg).toNatClampNeg = 7 ∨ (fk x.toNatClampNeg).toNatClampNeg = 9 ∨ (fk x.toNatClampNeg).toNatClampNeg = 12 then 2 else 1 := hT
        obtain ⟨a0, a1, a2, a3, a4, a5, a10, a11, ap⟩ := a
        obtain ⟨b0, b1, b2, b3, b4, b5, b10, b11, bp⟩ := b
        by_cases q0 : (fk x.toNatClampNeg).toNatClampNeg = 0
        · rw [a0 q0, b0 q0]
          exact E
        by_cases q1 : (fk x.toNatClampNeg).toNatClampNeg = 1
        · exact ent_det ht h0 E (a1 q1) (b1 q1)
        rw [if_neg (by omega)] at hT
        have c := o2 (by rw [hT]; split <;> decide)
        rw [k1] at c
        by_cases q2 : (fk x.toNatClampNeg).toNatClampNeg = 2
        · exact T _ _ c (a2 q2) (b2 q2)
        by_cases q3 : (fk x.toNatClampNeg).toNatClampNeg = 3
        · exact T _ _ c (a3 q3) (b3 q3)
        by_cases q4 : (fk x.toNatClampNeg).toNatClampNeg = 4
        · exact T _ _ c (a4 q4) (b4 q4)
        by_cases q5 : (fk x.toNatClampNeg).toNatClampNeg = 5
        · obtain ⟨s1, x1, x2⟩ := a5 q5
          obtain ⟨s2, y1, y2⟩ := b5 q5
          have dd := o3 (by rw [hT, if_pos (by omega)])
          exact ih _ t m s1 u s2 u' ⟨dd.1, by omega⟩ (by omega) ht (ih _ t m s s1 s' s2 ⟨c.1, by omega⟩ (by omega) ht E x1 y1) x2 y2
        by_cases q10 : (fk x.toNatClampNeg).toNatClampNeg = 10
        · exact ih _ _ m s u s' u' ⟨c.1, by omega⟩ (by omega) ⟨by omega, o4⟩ E (a10 q10) (b10 q10)
        by_cases q11 : (fk x.toNatClampNeg).toNatClampNeg = 11
        · obtain ⟨r, x1, x2⟩ := a11 q11
          obtain ⟨r', y1, y2⟩ := b11 q11
          have e := takQ_uniq x1 y1
          subst e
          by_cases q : r.toInt = -5
          · exact duE_mu (x2.1 q) (y2.1 q)
          · rcases x1 with ⟨z1, _⟩ | ⟨z1, z2, _⟩
            · exact absurd z1 q
            · exact ih _ r m s u s' u' ⟨c.1, by omega⟩ (by omega) ⟨by omega, by omega⟩ E (x2.2 q) (y2.2 q)
        have kp : pkK (fk x.toNatClampNeg).toNatClampNeg := by unfold pkK; omega
        have x2 := ap kp
        have y2 := bp kp
        by_cases q : (pickW l fk fn fc fd fe V x t (spW p t)).toInt = -5
        · exact duE_mu (x2.1 q) (y2.1 q)
        · have x3 := x2.2 q
          have y3 := y2.2 q
          rcases pick_in (l := l) (fk := fk) (fn := fn) (fc := fc) (fd := fd) (fe := fe) (V := V) (x := x) (t := t) (k := spW p t) with e | e | ⟨e8, e⟩
          · rw [e] at q
            exact absurd (by decide +kernel) q
          · rw [e] at x3 y3
            exact ih _ t m s u s' u' ⟨c.1, by omega⟩ (by omega) ht E x3 y3
          · rw [e] at x3 y3
            have dd := o3 (by rw [hT, if_pos (by unfold pkK at kp; omega)])
            exact ih _ t m s u s' u' ⟨dd.1, by omega⟩ (by omega) ht E x3 y3
    · exact duE_mu (a.1 h0) (b.1 (fun q => h0 (E.1.2 q)))
/-- all that falls due of x, had on day t of path p -/
def dusP (l fk fn fc fd fe fm : Nat → Int32) (V : vaF) (p x t : Int32) (u : duS) : Prop := ∃ s : duS, (∀ j : Nat, j < 7 → s.1 j = 0) ∧ s.2.1 = 0 ∧ (s.2.2.toInt = 0 ↔ ¬ 2000 < (fm x.toNatClampNeg).toInt) ∧ falP l fk fn fc fd fe V p 24 x t 1 s u
theorem dus_of {l fk fn fc fd fe fm : Nat → Int32} {V : vaF} {p x t b c : Int32} {f : Nat → Int64} {u : duS} (h1 : ∀ j : Nat, j < 7 → f j = 0) (h2 : b = 0) (h3 : c.toInt = 0 ↔ ¬ 2000 < (fm x.toNatClampNeg).toInt) (h : falP l fk fn fc fd fe V p 24 x t 1 (f, b, c) u) : dusP l fk fn fc fd fe fm V p x t u := ⟨(f, b, c), h1, h2, h3, h⟩
/-- sums of a row, with whether each fits -/
def sumT (f : Nat → Int64) (a : Nat) : Nat → Int64 × Prop
  | 0 => (0, True)
  | k + 1 => ((sumT f a k).1 + f (a + k), (sumT f a k).2 ∧ fitA (sumT f a k).1 (f (a + k)))
theorem sumT_ext {f g : Nat → Int64} {a : Nat} : ∀ k : Nat, (∀ j : Nat, a ≤ j → j < a + k → f j = g j) → sumT f a k = sumT g a k
  | 0, _ => rfl
  | k + 1, h => by
    have ih := sumT_ext (f := f) (g := g) (a := a) k (fun j h1 h2 => h j h1 (by omega))
    show ((sumT f a k).1 + f (a + k), (sumT f a k).2 ∧ fitA (sumT f a k).1 (f (a + k))) = ((sumT g a k).1 + g (a + k), (sumT g a k).2 ∧ fitA (sumT g a k).1 (g (a + k)))
    rw [ih, h (a + k) (by omega) (by omega)]
abbrev odV (n x t p o : Int32) : Prop := hadV n x t p ∧ 0 ≤ o.toInt ∧ o.toInt ≤ 6
def duQ (l fk fn fc fd fe fm : Nat → Int32) (V : vaF) (n x t p o : Int32) (r : Int64) : Prop := (¬ odV n x t p o ∧ r.toInt = -4611686018427387906) ∨ (odV n x t p o ∧ ∃ u : duS, dusP l fk fn fc fd fe fm V p x t u ∧ ((¬ u.2.2.toInt = 0 ∧ r.toInt = -4611686018427387909) ∨ (u.2.2.toInt = 0 ∧ r = u.1 o.toNatClampNeg)))
def ddQ (l fk fn fc fd fe fm : Nat → Int32) (V : vaF) (n x t p r : Int32) : Prop := (¬ hadV n x t p ∧ r.toInt = -2) ∨ (hadV n x t p ∧ ∃ u : duS, dusP l fk fn fc fd fe fm V p x t u ∧ ((¬ u.2.2.toInt = 0 ∧ r.toInt = -5) ∨ (u.2.2.toInt = 0 ∧ r = u.2.1)))
/-- what is left, if it fails on day o and k parts of nine are saved -/
def fsO (u : duS) (o : Nat) (k : Int64) : Prop := u.2.2.toInt = 0 ∧ (sumT u.1 0 o).2 ∧ (sumT u.1 o (7 - o)).2 ∧ fitM (sumT u.1 o (7 - o)).1 k ∧ fitA (sumT u.1 0 o).1 (((sumT u.1 o (7 - o)).1 * k) / 9)
def fsR (u : duS) (o : Nat) (k r : Int64) : Prop := (fsO u o k ∧ r = (sumT u.1 0 o).1 + ((sumT u.1 o (7 - o)).1 * k) / 9) ∨ (¬ fsO u o k ∧ r.toInt = -4611686018427387909)
def faQ (l fk fn fc fd fe fm : Nat → Int32) (V : vaF) (n x t p o k : Int32) (r : Int64) : Prop := (¬ (odV n x t p o ∧ 0 ≤ k.toInt ∧ k.toInt ≤ 9) ∧ r.toInt = -4611686018427387906) ∨ ((odV n x t p o ∧ 0 ≤ k.toInt ∧ k.toInt ≤ 9) ∧ ∃ u : duS, dusP l fk fn fc fd fe fm V p x t u ∧ fsR u o.toNatClampNeg k.toInt64 r)
/-- total(a, b): what comes of the mark -/
def totP (f : Nat → Int64) (a k : Nat) (r : Int64) (mu mu' : Int32) : Prop := r = (sumT f a k).1 ∧ ((sumT f a k).2 → mu' = mu) ∧ (¬ (sumT f a k).2 → ¬ mu'.toInt = 0) ∧ (¬ mu.toInt = 0 → ¬ mu'.toInt = 0)
theorem tot_0 {f : Nat → Int64} {a : Nat} {mu : Int32} : totP f a 0 0 mu mu := ⟨rfl, fun _ => rfl, fun q => absurd trivial q, fun q => q⟩
theorem tot_y {f : Nat → Int64} {a k : Nat} {r z z' : Int64} {mu m1 : Int32} (h : totP f a k r mu m1) (hz : z = f (a + k)) (h2 : z' = f (a + k)) (c : fitA r z) : totP f a (k + 1) (r + z') mu m1 := by
  obtain ⟨h1, h3, h4, h5⟩ := h
  subst h1
  rw [hz] at c
  rw [h2]
  exact ⟨rfl, fun q => h3 q.1, fun q => h4 (fun q2 => q ⟨q2, c⟩), h5⟩
theorem tot_n {f : Nat → Int64} {a k : Nat} {r z z' : Int64} {mu m1 m2 : Int32} (h : totP f a k r mu m1) (hz : z = f (a + k)) (h2 : z' = f (a + k)) (c : ¬ fitA r z) (e : ¬ m2.toInt = 0) : totP f a (k + 1) (r + z') mu m2 := by
  obtain ⟨h1, h3, h4, h5⟩ := h
  subst h1
  rw [hz] at c
  rw [h2]
  exact ⟨rfl, fun q => absurd q.2 c, fun _ => e, fun _ => e⟩
theorem tot_a {f : Nat → Int64} {x mu mu' : Int32} {a : Int64} (h : totP f (0 : Int32).toNatClampNeg (x.toNatClampNeg - (0 : Int32).toNatClampNeg) a mu mu') : totP f 0 x.toNatClampNeg a mu mu' := by
  have e : (0 : Int32).toNatClampNeg = 0 := by decide
  rw [e] at h
  exact h
theorem tot_b {f : Nat → Int64} {x mu mu' : Int32} {a : Int64} (h : totP f x.toNatClampNeg ((7 : Int32).toNatClampNeg - x.toNatClampNeg) a mu mu') : totP f x.toNatClampNeg (7 - x.toNatClampNeg) a mu mu' := by
  have e : (7 : Int32).toNatClampNeg = 7 := by decide
  rw [e] at h
  exact h
theorem tot_i {f : Nat → Int64} {x mu : Int32} : totP f x.toNatClampNeg (x.toNatClampNeg - x.toNatClampNeg) 0 mu mu := by
  rw [Nat.sub_self]
  exact tot_0
theorem fs_mu {u : duS} {o : Nat} {k r a b : Int64} {m1 m2 : Int32} (hA : totP u.1 0 o a u.2.2 m1) (hB : totP u.1 o (7 - o) b m1 m2) (h : ¬ m2.toInt = 0 ∨ ¬ fitM b k) (e : r.toInt = -4611686018427387909) : fsR u o k r := by
  refine Or.inr ⟨fun q => ?_, e⟩
  obtain ⟨q1, q2, q3, q4, q5⟩ := q
  rcases h with h | h
  · rw [hB.2.1 q3, hA.2.1 q2] at h
    exact h q1
  · rw [hB.1] at h
    exact h q4
theorem fs_ok {u : duS} {o : Nat} {k a b c : Int64} {m1 m2 : Int32} (hA : totP u.1 0 o a u.2.2 m1) (hB : totP u.1 o (7 - o) b m1 m2) (h : m2.toInt = 0) (h2 : fitM b k) (hc : c = (b * k) / 9) (h3 : fitA a c) : fsR u o k (a + c) := by
  obtain ⟨a1, a2, a3, a4⟩ := hA
  obtain ⟨b1, b2, b3, b4⟩ := hB
  have e1 : m1.toInt = 0 := Classical.byContradiction (fun q => b4 q h)
  have e2 : u.2.2.toInt = 0 := Classical.byContradiction (fun q => a4 q e1)
  have e3 : (sumT u.1 o (7 - o)).2 := Classical.byContradiction (fun q => b3 q h)
  have e4 : (sumT u.1 0 o).2 := Classical.byContradiction (fun q => a3 q e1)
  subst a1
  subst b1
  subst hc
  exact Or.inl ⟨⟨e2, e4, e3, h2, h3⟩, rfl⟩
theorem fs_no {u : duS} {o : Nat} {k a b c r : Int64} {m1 m2 : Int32} (hA : totP u.1 0 o a u.2.2 m1) (hB : totP u.1 o (7 - o) b m1 m2) (hc : c = (b * k) / 9) (h3 : ¬ fitA a c) (e : r.toInt = -4611686018427387909) : fsR u o k r := by
  refine Or.inr ⟨fun q => ?_, e⟩
  rw [hc, hA.1, hB.1] at h3
  exact h3 q.2.2.2.2
theorem fsR_uniq {u u' : duS} {o : Nat} {k r r' : Int64} (ho : o ≤ 6) (E : duE u u') (a : fsR u o k r) (b : fsR u' o k r') : r = r' := by
  by_cases h : u.2.2.toInt = 0
  · obtain ⟨e1, e2⟩ := E.2 h
    have s1 : sumT u.1 0 o = sumT u'.1 0 o := sumT_ext o (fun j h1 h2 => e2 j (by omega))
    have s2 : sumT u.1 o (7 - o) = sumT u'.1 o (7 - o) := sumT_ext (7 - o) (fun j h1 h2 => e2 j (by omega))
    unfold fsR fsO at a b
    rw [← s1, ← s2] at b
    have hu : (u'.2.2.toInt = 0) = (u.2.2.toInt = 0) := propext E.1.symm
    rw [hu] at b
    rcases a with ⟨a1, a2⟩ | ⟨a1, a2⟩
    · have b := (b.resolve_right (fun q => q.1 a1)).2
      rw [a2, b]
    · have b := (b.resolve_left (fun q => a1 q.1)).2
      exact Int64.toInt_inj.1 (a2.trans b.symm)
  · have a := (a.resolve_left (fun q => h q.1.1)).2
    have b := (b.resolve_left (fun q => h (E.1.2 q.1.1))).2
    exact Int64.toInt_inj.1 (a.trans b.symm)
theorem fal_keep {l fk fn fc fd fe : Nat → Int32} {V : vaF} {p x t : Int32} {d : Nat} {m : Int64} {s s' : duS} (hx : 0 ≤ x.toInt ∧ x.toInt < d) (h : falP l fk fn fc fd fe V p d x t m s s') (hm : ¬ s.2.2.toInt = 0) : ¬ s'.2.2.toInt = 0 := by
  match d, hx, h with
  | 0, hx, _ => omega
  | d + 1, _, h => exact h.1 hm
/-- failed(), as the reference adds it: behind m days -/
def faI (f : Nat → Int64) (o m : Nat) (a b : Int64) (mm : Int32) : Prop := a = (sumT f 0 (min m o)).1 ∧ b = (sumT f o (m - o)).1 ∧ (mm.toInt = 0 ↔ ((sumT f 0 (min m o)).2 ∧ (sumT f o (m - o)).2))
theorem fa_0 {f : Nat → Int64} {o : Nat} {mm : Int32} (h : mm.toInt = 0) : faI f o 0 0 0 mm := by
  have e : min 0 o = 0 := by omega
  have e2 : 0 - o = 0 := by omega
  unfold faI
  rw [e, e2]
  exact ⟨rfl, rfl, ⟨fun _ => ⟨trivial, trivial⟩, fun _ => h⟩⟩
theorem fa_a {f : Nat → Int64} {o m : Nat} {a b z r : Int64} {mm m2 : Int32} (h : faI f o m a b mm) (hm : m < o) (hz : z = f m) (hr : r = a + z) (g : m2.toInt = 0 ↔ (mm.toInt = 0 ∧ fitA a z)) : faI f o (m + 1) r b m2 := by
  obtain ⟨h1, h2, h3⟩ := h
  have e : min (m + 1) o = min m o + 1 := by omega
  have e2 : m + 1 - o = m - o := by omega
  have e3 : 0 + min m o = m := by omega
  have e4 : sumT f 0 (min m o + 1) = ((sumT f 0 (min m o)).1 + f (0 + min m o), (sumT f 0 (min m o)).2 ∧ fitA (sumT f 0 (min m o)).1 (f (0 + min m o))) := rfl
  rw [e3] at e4
  unfold faI
  rw [e, e2, e4]
  refine ⟨by rw [hr, hz, h1], h2, ?_⟩
  rw [g, h3, hz, h1]
  exact ⟨fun q => ⟨⟨q.1.1, q.2⟩, q.1.2⟩, fun q => ⟨⟨q.1.1, q.2⟩, q.1.2⟩⟩
theorem fa_b {f : Nat → Int64} {o m : Nat} {a b z r : Int64} {mm m2 : Int32} (h : faI f o m a b mm) (hm : o ≤ m) (hz : z = f m) (hr : r = b + z) (g : m2.toInt = 0 ↔ (mm.toInt = 0 ∧ fitA b z)) : faI f o (m + 1) a r m2 := by
  obtain ⟨h1, h2, h3⟩ := h
  have e : min (m + 1) o = min m o := by omega
  have e2 : m + 1 - o = (m - o) + 1 := by omega
  have e3 : o + (m - o) = m := by omega
  have e4 : sumT f o (m - o + 1) = ((sumT f o (m - o)).1 + f (o + (m - o)), (sumT f o (m - o)).2 ∧ fitA (sumT f o (m - o)).1 (f (o + (m - o)))) := rfl
  rw [e3] at e4
  unfold faI
  rw [e, e2, e4]
  refine ⟨h1, by rw [hr, hz, h2], ?_⟩
  rw [g, h3, hz, h2]
  exact ⟨fun q => ⟨q.1.1, q.1.2, q.2⟩, fun q => ⟨⟨q.1, q.2.1⟩, q.2.2⟩⟩
theorem fs_rn {u : duS} {o : Nat} {k a b r : Int64} {mm : Int32} (ho : o ≤ 6) (I : faI u.1 o 7 a b mm) (h : ¬ mm.toInt = 0 ∨ ¬ fitM k b ∨ ¬ fitA a ((k * b) / 9)) (e : r.toInt = -4611686018427387909) : fsR u o k r := by
  obtain ⟨h1, h2, h3⟩ := I
  have e1 : min 7 o = o := by omega
  rw [e1] at h1 h3
  refine Or.inr ⟨fun q => ?_, e⟩
  obtain ⟨q1, q2, q3, q4, q5⟩ := q
  rw [← h2] at q4 q5
  rw [← h1] at q5
  rcases h with h | h | h
  · exact h (h3.2 ⟨q2, q3⟩)
  · exact h (fitM_c.1 q4)
  · rw [Int64.mul_comm] at h
    exact h q5
theorem fs_ry {u : duS} {o : Nat} {k a b r : Int64} {mm : Int32} (ho : o ≤ 6) (hu : u.2.2.toInt = 0) (I : faI u.1 o 7 a b mm) (h : mm.toInt = 0) (h4 : fitM k b) (h5 : fitA a ((k * b) / 9)) (e : r = a + (k * b) / 9) : fsR u o k r := by
  obtain ⟨h1, h2, h3⟩ := I
  have e1 : min 7 o = o := by omega
  rw [e1] at h1 h3
  have g := h3.1 h
  rw [Int64.mul_comm] at h5 e
  rw [h1, h2] at h5 e
  exact Or.inl ⟨⟨hu, g.1, g.2, (by rw [← h2]; exact fitM_c.1 h4), h5⟩, e⟩
