/-! what is asked of worth, out of any table V of VALUES -/
/-- the spot of a path on a day -/
def spW (p t : Int32) : Int32 := sp_bits (p &&& ((1 <<< (t &&& 31)) - 1))
/-- on day t it can't be told; what tells it -/
def tkM (l fc : Nat → Int32) (V : vaF) (x p t : Int32) : Prop := (V (fc x.toNatClampNeg) t (spW p t)).2.toInt = 0 ∨ (avgW l V x t (spW p t)).2.toInt = 0
def tkS (l fc : Nat → Int32) (V : vaF) (x p t : Int32) : Int := cmpP (V (fc x.toNatClampNeg) t (spW p t)) (avgW l V x t (spW p t))
def tkN (l fc : Nat → Int32) (V : vaF) (x p t : Int32) : Prop := ¬ tkM l fc V x p t ∧ tkS l fc V x p t < 0
/-- FREE x, had on day t0, no later than e: the day on which it is taken; -5, if it can't be told -/
def takQ (l fc : Nat → Int32) (V : vaF) (e : Int) (x p t0 r : Int32) : Prop := (r.toInt = -5 ∧ ∃ t : Int32, t0.toInt ≤ t.toInt ∧ t.toInt < e ∧ tkM l fc V x p t ∧ ∀ s : Int32, t0.toInt ≤ s.toInt → s.toInt < t.toInt → tkN l fc V x p s) ∨ (t0.toInt ≤ r.toInt ∧ r.toInt ≤ e ∧ (r.toInt < e → ¬ tkM l fc V x p r ∧ 0 ≤ tkS l fc V x p r) ∧ ∀ s : Int32, t0.toInt ≤ s.toInt → s.toInt < r.toInt → tkN l fc V x p s)
theorem takQ_uniq {l fc : Nat → Int32} {V : vaF} {e : Int} {x p t0 r r' : Int32} (a : takQ l fc V e x p t0 r) (b : takQ l fc V e x p t0 r') : r = r' := by
  refine Int32.toInt_inj.1 ?_
  rcases a with ⟨a1, t, a2, a3, a4, a5⟩ | ⟨a2, a3, a4, a5⟩
  · rcases b with ⟨b1, _⟩ | ⟨b2, b3, b4, b5⟩
    · omega
    · exfalso
      rcases Int.lt_trichotomy t.toInt r'.toInt with h | h | h
      · exact (b5 t a2 h).1 a4
      · have h2 : t = r' := Int32.toInt_inj.1 h
        subst h2
        exact (b4 a3).1 a4
      · have h2 := (a5 r' b2 h).2
        have h3 := (b4 (by omega)).2
        omega
  · rcases b with ⟨b1, t, b2, b3, b4, b5⟩ | ⟨b2, b3, b4, b5⟩
    · exfalso
      rcases Int.lt_trichotomy t.toInt r.toInt with h | h | h
      · exact (a5 t b2 h).1 b4
      · have h2 : t = r := Int32.toInt_inj.1 h
        subst h2
        exact (a4 b3).1 b4
      · have h2 := (b5 r a2 h).2
        have h3 := (a4 (by omega)).2
        omega
    · rcases Int.lt_trichotomy r.toInt r'.toInt with h | h | h
      · exfalso
        have h2 := (b5 r a2 h).2
        have h3 := (a4 (by omega)).2
        omega
      · exact h
      · exfalso
        have h2 := (a5 r' b2 h).2
        have h3 := (b4 (by omega)).2
        omega
theorem upto_step {P : Int32 → Prop} {t0 t t' : Int32} (h : ∀ s : Int32, t0.toInt ≤ s.toInt → s.toInt < t.toInt → P s) (hp : P t) (hi : t'.toInt = t.toInt + 1) : ∀ s : Int32, t0.toInt ≤ s.toInt → s.toInt < t'.toInt → P s := by
  intro s h1 h2
  by_cases e : s.toInt = t.toInt
  · rw [Int32.toInt_inj.1 e]; exact hp
  · exact h s h1 (by omega)
theorem upto_0 {P : Int32 → Prop} {t0 : Int32} : ∀ s : Int32, t0.toInt ≤ s.toInt → s.toInt < t0.toInt → P s := fun s h1 h2 => by exfalso; omega
/-- a clause that there is, on a day, at a spot -/
abbrev atV (n x t k : Int32) : Prop := (0 ≤ x.toInt ∧ x.toInt < n.toInt) ∧ (0 ≤ t.toInt ∧ t.toInt ≤ 6) ∧ 0 ≤ k.toInt ∧ k.toInt ≤ t.toInt
def valQ (V : vaF) (n x t k i : Int32) (r : Int64) : Prop := (¬ (atV n x t k ∧ 0 ≤ i.toInt ∧ i.toInt ≤ 1) ∧ r.toInt = -4611686018427387906) ∨ ((atV n x t k ∧ 0 ≤ i.toInt ∧ i.toInt ≤ 1) ∧ partW (V x t k) i r)
def meanQ (l : Nat → Int32) (V : vaF) (n x t k i : Int32) (r : Int64) : Prop := (¬ (atV n x t k ∧ t.toInt ≠ 6 ∧ 0 ≤ i.toInt ∧ i.toInt ≤ 1) ∧ r.toInt = -4611686018427387906) ∨ ((atV n x t k ∧ t.toInt ≠ 6 ∧ 0 ≤ i.toInt ∧ i.toInt ≤ 1) ∧ partW (avgW l V x t k) i r)
def chQ (l fk fn fc fd fe : Nat → Int32) (V : vaF) (n x t k r : Int32) : Prop := (¬ (atV n x t k ∧ ((fk x.toNatClampNeg).toNatClampNeg = 6 ∨ (fk x.toNatClampNeg).toNatClampNeg = 7)) ∧ r.toInt = -2) ∨ ((atV n x t k ∧ ((fk x.toNatClampNeg).toNatClampNeg = 6 ∨ (fk x.toNatClampNeg).toNatClampNeg = 7)) ∧ (((fe x.toNatClampNeg).toInt < t.toInt ∧ r.toInt = -3) ∨ (¬ (fe x.toNatClampNeg).toInt < t.toInt ∧ r = pickW l fk fn fc fd fe V x t k)))
abbrev hadV (n x t p : Int32) : Prop := (0 ≤ x.toInt ∧ x.toInt < n.toInt) ∧ (0 ≤ t.toInt ∧ t.toInt ≤ 6) ∧ 0 ≤ p.toInt ∧ p.toInt ≤ 63
def tkQ (l fk fc fe : Nat → Int32) (V : vaF) (n x t p r : Int32) : Prop := (¬ (hadV n x t p ∧ (fk x.toNatClampNeg).toNatClampNeg = 11) ∧ r.toInt = -2) ∨ ((hadV n x t p ∧ (fk x.toNatClampNeg).toNatClampNeg = 11) ∧ (((fe x.toNatClampNeg).toInt < t.toInt ∧ r.toInt = -3) ∨ (¬ (fe x.toNatClampNeg).toInt < t.toInt ∧ takQ l fc V (fe x.toNatClampNeg).toInt x p t r)))
/-- spots in their order -/
abbrev spK (t k : Int32) : Prop := (0 ≤ t.toInt ∧ t.toInt ≤ 6) ∧ 0 ≤ k.toInt ∧ k.toInt ≤ t.toInt
abbrev spL (t k t' k' : Int32) : Prop := t.toInt < t'.toInt ∨ (t.toInt = t'.toInt ∧ k.toInt < k'.toInt)
abbrev mu2 (V : vaF) (x y t k : Int32) : Prop := (V x t k).2.toInt = 0 ∨ (V y t k).2.toInt = 0
def alkQ (V : vaF) (fe : Nat → Int32) (n x y r : Int32) : Prop := (¬ ((0 ≤ x.toInt ∧ x.toInt < n.toInt) ∧ 0 ≤ y.toInt ∧ y.toInt < n.toInt) ∧ r.toInt = -2) ∨ (((0 ≤ x.toInt ∧ x.toInt < n.toInt) ∧ 0 ≤ y.toInt ∧ y.toInt < n.toInt) ∧ (((∃ t k : Int32, spK t k ∧ mu2 V x y t k) ∧ r.toInt = -5) ∨ ((∀ t k : Int32, spK t k → ¬ mu2 V x y t k) ∧ (((fe x.toNatClampNeg).toInt = (fe y.toNatClampNeg).toInt ∧ ∀ t k : Int32, spK t k → V x t k = V y t k) ∧ r.toInt = 1 ∨ ¬ ((fe x.toNatClampNeg).toInt = (fe y.toNatClampNeg).toInt ∧ ∀ t k : Int32, spK t k → V x t k = V y t k) ∧ r.toInt = 0))))
def unlQ (V : vaF) (n x y r : Int32) : Prop := (¬ ((0 ≤ x.toInt ∧ x.toInt < n.toInt) ∧ 0 ≤ y.toInt ∧ y.toInt < n.toInt) ∧ r.toInt = -2) ∨ (((0 ≤ x.toInt ∧ x.toInt < n.toInt) ∧ 0 ≤ y.toInt ∧ y.toInt < n.toInt) ∧ ((∃ t k : Int32, spK t k ∧ (∀ t' k' : Int32, spK t' k' → spL t' k' t k → ¬ mu2 V x y t' k' ∧ V x t' k' = V y t' k') ∧ ((mu2 V x y t k ∧ r.toInt = -5) ∨ (¬ mu2 V x y t k ∧ V x t k ≠ V y t k ∧ r.toInt = 10 * t.toInt + k.toInt))) ∨ ((∀ t k : Int32, spK t k → ¬ mu2 V x y t k ∧ V x t k = V y t k) ∧ r.toInt = -1)))
/-- the first of the greatest among i < m -/
def bestI (W : Int32 → Int64 × Int64) (b m : Int32) : Prop := (0 ≤ b.toInt ∧ b.toInt < m.toInt) ∧ (∀ j : Int32, 0 ≤ j.toInt → j.toInt < b.toInt → cmpP (W j) (W b) < 0) ∧ ∀ j : Int32, b.toInt ≤ j.toInt → j.toInt < m.toInt → cmpP (W j) (W b) ≤ 0
def mostQ (V : vaF) (n x t r : Int32) : Prop := (¬ ((0 ≤ x.toInt ∧ x.toInt < n.toInt) ∧ 0 ≤ t.toInt ∧ t.toInt ≤ 6) ∧ r.toInt = -2) ∨ (((0 ≤ x.toInt ∧ x.toInt < n.toInt) ∧ 0 ≤ t.toInt ∧ t.toInt ≤ 6) ∧ (((∃ k : Int32, spK t k ∧ (V x t k).2.toInt = 0) ∧ r.toInt = -5) ∨ ((∀ k : Int32, spK t k → ¬ (V x t k).2.toInt = 0) ∧ spK t r ∧ (∀ j : Int32, 0 ≤ j.toInt → j.toInt < r.toInt → cmpP (V x t j) (V x t r) < 0) ∧ ∀ j : Int32, r.toInt ≤ j.toInt → j.toInt ≤ t.toInt → cmpP (V x t j) (V x t r) ≤ 0)))
theorem partW_of {p q : Int64 × Int64} {i : Int32} {r : Int64} (h : p = q) (a : partW p i r) : partW q i r := h ▸ a
theorem valQ_uniq {V V' : vaF} {n x t k i : Int32} {r r' : Int64} (hV : atV n x t k → V x t k = V' x t k) (a : valQ V n x t k i r) (b : valQ V' n x t k i r') : r = r' := by
  rcases a with ⟨a1, a2⟩ | ⟨a1, a2⟩
  · have b := b.resolve_right (fun q => a1 q.1)
    exact Int64.toInt_inj.1 (a2.trans b.2.symm)
  · have b := b.resolve_left (fun q => q.1 a1)
    rw [hV a1.1] at a2
    exact partW_uniq a2 b.2
theorem meanQ_uniq {l l' : Nat → Int32} {V V' : vaF} {n x t k i : Int32} {r r' : Int64} (hV : atV n x t k → t.toInt ≠ 6 → avgW l V x t k = avgW l' V' x t k) (a : meanQ l V n x t k i r) (b : meanQ l' V' n x t k i r') : r = r' := by
  rcases a with ⟨a1, a2⟩ | ⟨a1, a2⟩
  · have b := b.resolve_right (fun q => a1 q.1)
    exact Int64.toInt_inj.1 (a2.trans b.2.symm)
  · have b := b.resolve_left (fun q => q.1 a1)
    rw [hV a1.1 a1.2.1] at a2
    exact partW_uniq a2 b.2
theorem dX11_takenOn_0 : decode cX11_takenOn 0 = .ok (.aload_n 0, 1) := by decide +kernel
theorem dX11_takenOn_1 : decode cX11_takenOn 1 = .ok (.getfield 30, 3) := by decide +kernel
theorem dX11_takenOn_100 : decode cX11_takenOn 100 = .ok (.ireturn, 1) := by decide +kernel
theorem dX11_takenOn_101 : decode cX11_takenOn 101 = .ok (.iinc 6 1, 3) := by decide +kernel
theorem dX11_takenOn_104 : decode cX11_takenOn 104 = .ok (.goto (-79), 3) := by decide +kernel
theorem dX11_takenOn_107 : decode cX11_takenOn 107 = .ok (.iload 5, 2) := by decide +kernel
theorem dX11_takenOn_109 : decode cX11_takenOn 109 = .ok (.ireturn, 1) := by decide +kernel
theorem dX11_takenOn_11 : decode cX11_takenOn 11 = .ok (.aload_n 0, 1) := by decide +kernel
theorem dX11_takenOn_12 : decode cX11_takenOn 12 = .ok (.getfield 30, 3) := by decide +kernel
theorem dX11_takenOn_15 : decode cX11_takenOn 15 = .ok (.getfield 45, 3) := by decide +kernel
theorem dX11_takenOn_18 : decode cX11_takenOn 18 = .ok (.iload_n 1, 1) := by decide +kernel
theorem dX11_takenOn_19 : decode cX11_takenOn 19 = .ok (.iaload, 1) := by decide +kernel
theorem dX11_takenOn_20 : decode cX11_takenOn 20 = .ok (.istore 5, 2) := by decide +kernel
theorem dX11_takenOn_22 : decode cX11_takenOn 22 = .ok (.iload_n 2, 1) := by decide +kernel
theorem dX11_takenOn_23 : decode cX11_takenOn 23 = .ok (.istore 6, 2) := by decide +kernel
theorem dX11_takenOn_25 : decode cX11_takenOn 25 = .ok (.iload 6, 2) := by decide +kernel
theorem dX11_takenOn_27 : decode cX11_takenOn 27 = .ok (.iload 5, 2) := by decide +kernel
theorem dX11_takenOn_29 : decode cX11_takenOn 29 = .ok (.if_icmp .ge 78, 3) := by decide +kernel
theorem dX11_takenOn_32 : decode cX11_takenOn 32 = .ok (.iload_n 3, 1) := by decide +kernel
theorem dX11_takenOn_33 : decode cX11_takenOn 33 = .ok (.iload 6, 2) := by decide +kernel
theorem dX11_takenOn_35 : decode cX11_takenOn 35 = .ok (.invokestatic 144, 3) := by decide +kernel
theorem dX11_takenOn_38 : decode cX11_takenOn 38 = .ok (.istore 7, 2) := by decide +kernel
theorem dX11_takenOn_4 : decode cX11_takenOn 4 = .ok (.getfield 40, 3) := by decide +kernel
theorem dX11_takenOn_40 : decode cX11_takenOn 40 = .ok (.aload_n 0, 1) := by decide +kernel
theorem dX11_takenOn_41 : decode cX11_takenOn 41 = .ok (.iload 4, 2) := by decide +kernel
theorem dX11_takenOn_43 : decode cX11_takenOn 43 = .ok (.iload 6, 2) := by decide +kernel
theorem dX11_takenOn_45 : decode cX11_takenOn 45 = .ok (.iload 7, 2) := by decide +kernel
theorem dX11_takenOn_47 : decode cX11_takenOn 47 = .ok (.invokevirtual 71, 3) := by decide +kernel
theorem dX11_takenOn_50 : decode cX11_takenOn 50 = .ok (.istore 8, 2) := by decide +kernel
theorem dX11_takenOn_52 : decode cX11_takenOn 52 = .ok (.aload_n 0, 1) := by decide +kernel
theorem dX11_takenOn_53 : decode cX11_takenOn 53 = .ok (.sipush 674, 3) := by decide +kernel
theorem dX11_takenOn_56 : decode cX11_takenOn 56 = .ok (.iload_n 1, 1) := by decide +kernel
theorem dX11_takenOn_57 : decode cX11_takenOn 57 = .ok (.iload 6, 2) := by decide +kernel
theorem dX11_takenOn_59 : decode cX11_takenOn 59 = .ok (.iload 7, 2) := by decide +kernel
theorem dX11_takenOn_61 : decode cX11_takenOn 61 = .ok (.invokevirtual 101, 3) := by decide +kernel
theorem dX11_takenOn_64 : decode cX11_takenOn 64 = .ok (.aload_n 0, 1) := by decide +kernel
theorem dX11_takenOn_65 : decode cX11_takenOn 65 = .ok (.iload 8, 2) := by decide +kernel
theorem dX11_takenOn_67 : decode cX11_takenOn 67 = .ok (.invokevirtual 34, 3) := by decide +kernel
theorem dX11_takenOn_7 : decode cX11_takenOn 7 = .ok (.iload_n 1, 1) := by decide +kernel
theorem dX11_takenOn_70 : decode cX11_takenOn 70 = .ok (.ifCond .ne 13, 3) := by decide +kernel
theorem dX11_takenOn_73 : decode cX11_takenOn 73 = .ok (.aload_n 0, 1) := by decide +kernel
theorem dX11_takenOn_74 : decode cX11_takenOn 74 = .ok (.sipush 674, 3) := by decide +kernel
theorem dX11_takenOn_77 : decode cX11_takenOn 77 = .ok (.invokevirtual 34, 3) := by decide +kernel
theorem dX11_takenOn_8 : decode cX11_takenOn 8 = .ok (.iaload, 1) := by decide +kernel
theorem dX11_takenOn_80 : decode cX11_takenOn 80 = .ok (.ifCond .eq 6, 3) := by decide +kernel
theorem dX11_takenOn_83 : decode cX11_takenOn 83 = .ok (.bipush (-5), 2) := by decide +kernel
theorem dX11_takenOn_85 : decode cX11_takenOn 85 = .ok (.ireturn, 1) := by decide +kernel
theorem dX11_takenOn_86 : decode cX11_takenOn 86 = .ok (.aload_n 0, 1) := by decide +kernel
theorem dX11_takenOn_87 : decode cX11_takenOn 87 = .ok (.iload 8, 2) := by decide +kernel
theorem dX11_takenOn_89 : decode cX11_takenOn 89 = .ok (.sipush 674, 3) := by decide +kernel
theorem dX11_takenOn_9 : decode cX11_takenOn 9 = .ok (.istore 4, 2) := by decide +kernel
theorem dX11_takenOn_92 : decode cX11_takenOn 92 = .ok (.invokevirtual 114, 3) := by decide +kernel
theorem dX11_takenOn_95 : decode cX11_takenOn 95 = .ok (.ifCond .lt 6, 3) := by decide +kernel
theorem dX11_takenOn_98 : decode cX11_takenOn 98 = .ok (.iload 6, 2) := by decide +kernel
set_option maxRecDepth 20000 in
theorem ggX11_takenOn_X11_average : GoodIn wsX11_takenOn wsX11_average := goodIn_r _ [107, 26, 108, 109, 110, 111, 46, 47, 15, 16, 17, 18, 48, 49, 50, 51, 52, 53, 54, 24, 55, 42, 43, 44, 45, 56, 57, 58, 59, 60, 61, 62, 63, 71, 72, 73, 74, 75, 76, 77, 112, 1, 2, 27, 113, 114, 25, 3, 115, 116, 29, 30, 31, 32, 33, 34, 64, 65, 66, 6, 67, 68, 69, 70, 89, 90, 91, 92, 93, 94, 95, 96, 97, 98, 99, 100, 101, 102, 103, 19, 20, 21, 22, 23, 28, 35, 36, 37, 38, 39, 40, 41, 78, 79, 80, 81, 82, 83, 84, 85, 86, 87, 88, 104, 105, 106, 117, 118, 119, 120, 121, 122, 131, 132, 133, 134, 135, 136, 137, 123, 124, 125, 126, 127, 128, 129, 130] rfl (by decide +kernel)
set_option maxRecDepth 20000 in
theorem ggX11_takenOn_X11_isMuch : GoodIn wsX11_takenOn wsX11_isMuch := goodIn_r _ [92, 47, 117, 118, 119, 120, 121, 122] rfl (by decide +kernel)
set_option maxRecDepth 20000 in
theorem ggX11_takenOn_X11_order : GoodIn wsX11_takenOn wsX11_order := goodIn_r _ [96, 46, 47, 97, 98, 99, 100, 101, 102, 103, 117, 118, 119, 120, 121, 122] rfl (by decide +kernel)
set_option maxRecDepth 20000 in
theorem ggX11_takenOn_X11_settle : GoodIn wsX11_takenOn wsX11_settle := goodIn_r _ [19, 20, 21, 1, 2, 3, 22, 23, 24, 25, 26, 27, 28, 29, 30, 31, 32, 33, 34, 35, 36, 37, 38, 39, 40, 41, 42, 43, 44, 18, 45, 46, 47, 15, 16, 17, 48, 49, 50, 51, 52, 53, 54, 55, 56, 57, 58, 59, 60, 61, 62, 63, 64, 65, 66, 6, 67, 68, 69, 70, 71, 72, 73, 74, 75, 76, 77, 78, 79, 80, 81, 82, 83, 84, 85, 86, 87, 88, 89, 90, 91, 92, 93, 94, 95, 96, 97, 98, 99, 100, 101, 102, 103, 104, 105, 106, 107, 108, 109, 110, 111, 112, 113, 114, 115, 116, 117, 118, 119, 120, 121, 122, 131, 132, 133, 134, 135, 136, 137, 123, 124, 125, 126, 127, 128, 129, 130] rfl (by decide +kernel)
set_option maxRecDepth 20000 in
theorem ggX11_takenOn_X8_spotOn : GoodIn wsX11_takenOn wsX8_spotOn := goodIn_r _ [7, 8, 9, 10, 11, 12, 13, 14] rfl (by decide +kernel)
set_option maxRecDepth 20000 in
theorem gX11_takenOn_X11_average : GoodIn wsX11_takenOn (wsV RX11 101 RX11 yX11_average wsX11_average) := goodIn_app (goodIn_r _ [82, 83, 84, 18] rfl (by decide +kernel)) ggX11_takenOn_X11_average
set_option maxRecDepth 20000 in
theorem gX11_takenOn_X11_isMuch : GoodIn wsX11_takenOn (wsV RX11 34 RX11 yX11_isMuch wsX11_isMuch) := goodIn_app (goodIn_r _ [89, 90, 91, 18] rfl (by decide +kernel)) ggX11_takenOn_X11_isMuch
set_option maxRecDepth 20000 in
theorem gX11_takenOn_X11_order : GoodIn wsX11_takenOn (wsV RX11 114 RX11 yX11_order wsX11_order) := goodIn_app (goodIn_r _ [93, 94, 95, 18] rfl (by decide +kernel)) ggX11_takenOn_X11_order
set_option maxRecDepth 20000 in
theorem gX11_takenOn_X11_settle : GoodIn wsX11_takenOn (wsV RX11 71 RX11 yX11_settle wsX11_settle) := goodIn_app (goodIn_r _ [15, 16, 17, 18] rfl (by decide +kernel)) ggX11_takenOn_X11_settle
set_option maxRecDepth 20000 in
theorem gX11_takenOn_X8_spotOn : GoodIn wsX11_takenOn (va_wsS RX11 144 yX8_spotOn wsX8_spotOn) := goodIn_app (goodIn_of _ (by decide +kernel)) ggX11_takenOn_X8_spotOn
set_option maxRecDepth 20000 in
theorem in_X11_takenOn_X11 : ∀ w ∈ wsX110, w ∈ wsX11_takenOn := sub_r [117, 118, 119, 120, 121, 122] rfl
set_option maxRecDepth 20000 in
theorem in_X11_takenOn_X2 : ∀ w ∈ wsX20, w ∈ wsX11_takenOn := sub_r [123, 124, 125, 126, 127, 128, 129, 130] rfl
set_option maxHeartbeats 4000000 in
set_option maxRecDepth 100000 in
theorem c_X11_takenOn (l : Launch) (D : va_G) (T : Nat → ClassId) (ad sa av : Nat → Nat) (ta : Nat) (sz : Nat) (h0 : Nat) (la : Nat) (cl : Nat) (p0 : Nat) (p1 : Nat) (p4 : Nat) (n : Int32) (l9 : Nat → Int32) (n0 : Int32) (c1 : Nat) (c2 : Nat) (c3 : Nat) (c4 : Nat) (c5 : Nat) (c6 : Nat) (c7 : Nat) (f1 : Nat → Int32) (f2 : Nat → Int32) (f3 : Nat → Int32) (f4 : Nat → Int32) (f5 : Nat → Int32) (g0 : Nat → Int64) (g1 : Nat → Int64) (g4 : Nat → Int32) (x1 : Int32) (x2 : Int32) (x3 : Int32) (hx : 0 ≤ x1.toInt ∧ x1.toInt < 24) (hd : 0 ≤ x2.toInt ∧ x2.toInt ≤ 6) (hpa : 0 ≤ x3.toInt ∧ x3.toInt ≤ 63) (hok : okC f1 f3 f4 f5) (hk11 : (f1 (x1.toNatClampNeg)).toNatClampNeg = 11) (hend : x2.toInt ≤ (f5 (x1.toNatClampNeg)).toInt) (hxn : x1.toInt < n0.toInt) (hmm : memW (VALW l9 f1 f2 f3 f4 f5) n0 n g0 g1 g4) (hlq : (1 ≤ (l9 4).toInt ∧ (l9 4).toInt ≤ 9) ∧ 1 ≤ (l9 6).toInt ∧ (l9 6).toInt ≤ 9) : Met l yX11_takenOn wsX11_takenOn ({ frames := 68, cells := 0, slots := 0, locals := 2226 }) (pWk [.ref h0, .int x1, .int x2, .int x3] D T [(h0, .inr (8, [.ref la, .ref cl, .ref p0, .ref p1, .ref p4, .int n])), (la, .inr (5, [.int (l9 0), .int (l9 1), .int (l9 2), .int (l9 3), .int (l9 4), .int (l9 5), .int (l9 6)])), (cl, .inr (1, [.int n0, .ref c1, .ref c2, .ref c3, .ref c4, .ref c5, .ref c6, .ref c7])), (c1, .inl (T 0, 24, .inl f1)), (c2, .inl (T 0, 24, .inl f2)), (c3, .inl (T 0, 24, .inl f3)), (c4, .inl (T 0, 24, .inl f4)), (c5, .inl (T 0, 24, .inl f5)), (p0, .inl (T 1, 676, .inr (.inl g0))), (p1, .inl (T 1, 676, .inr (.inl g1))), (p4, .inl (T 0, 672, .inl g4))] sz ad sa av ta) (va_Qi (fun (r : Int32) (u : (Nat → Int64) × (Nat → Int64) × (Nat → Int32)) => (r.toInt = -5 ∨ (0 ≤ r.toInt ∧ r.toInt ≤ 6)) ∧ takQ l9 f3 (VALW l9 f1 f2 f3 f4 f5) (f5 (x1.toNatClampNeg)).toInt x1 x3 x2 r ∧ stW (VALW l9 f1 f2 f3 f4 f5) n0 n (fun _ => True) g0 g1 g4 u.1 u.2.1 u.2.2) (bW D (va_A [(h0, .inr (8, [.ref la, .ref cl, .ref p0, .ref p1, .ref p4, .int n])), (la, .inr (5, [.int (l9 0), .int (l9 1), .int (l9 2), .int (l9 3), .int (l9 4), .int (l9 5), .int (l9 6)])), (cl, .inr (1, [.int n0, .ref c1, .ref c2, .ref c3, .ref c4, .ref c5, .ref c6, .ref c7])), (c1, .inl (T 0, 24, .inl f1)), (c2, .inl (T 0, 24, .inl f2)), (c3, .inl (T 0, 24, .inl f3)), (c4, .inl (T 0, 24, .inl f4)), (c5, .inl (T 0, 24, .inl f5)), (p0, .inl (T 1, 676, .inr (.inl g0))), (p1, .inl (T 1, 676, .inr (.inl g1))), (p4, .inl (T 0, 672, .inl g4))] sz) (fun (u : (Nat → Int64) × (Nat → Int64) × (Nat → Int32)) => [(h0, .inr (8, [.ref la, .ref cl, .ref p0, .ref p1, .ref p4, .int n])), (la, .inr (5, [.int (l9 0), .int (l9 1), .int (l9 2), .int (l9 3), .int (l9 4), .int (l9 5), .int (l9 6)])), (cl, .inr (1, [.int n0, .ref c1, .ref c2, .ref c3, .ref c4, .ref c5, .ref c6, .ref c7])), (c1, .inl (T 0, 24, .inl f1)), (c2, .inl (T 0, 24, .inl f2)), (c3, .inl (T 0, 24, .inl f3)), (c4, .inl (T 0, 24, .inl f4)), (c5, .inl (T 0, 24, .inl f5)), (p0, .inl (T 1, 676, .inr (.inl u.1))), (p1, .inl (T 1, 676, .inr (.inl u.2.1))), (p4, .inl (T 0, 672, .inl u.2.2))])) (va_A [(h0, .inr (8, [.ref la, .ref cl, .ref p0, .ref p1, .ref p4, .int n])), (la, .inr (5, [.int (l9 0), .int (l9 1), .int (l9 2), .int (l9 3), .int (l9 4), .int (l9 5), .int (l9 6)])), (cl, .inr (1, [.int n0, .ref c1, .ref c2, .ref c3, .ref c4, .ref c5, .ref c6, .ref c7])), (c1, .inl (T 0, 24, .inl f1)), (c2, .inl (T 0, 24, .inl f2)), (c3, .inl (T 0, 24, .inl f3)), (c4, .inl (T 0, 24, .inl f4)), (c5, .inl (T 0, 24, .inl f5)), (p0, .inl (T 1, 676, .inr (.inl g0))), (p1, .inl (T 1, 676, .inr (.inl g1))), (p4, .inl (T 0, 672, .inl g4))] sz)) 0 0 (va_A [(h0, .inr (8, [.ref la, .ref cl, .ref p0, .ref p1, .ref p4, .int n])), (la, .inr (5, [.int (l9 0), .int (l9 1), .int (l9 2), .int (l9 3), .int (l9 4), .int (l9 5), .int (l9 6)])), (cl, .inr (1, [.int n0, .ref c1, .ref c2, .ref c3, .ref c4, .ref c5, .ref c6, .ref c7])), (c1, .inl (T 0, 24, .inl f1)), (c2, .inl (T 0, 24, .inl f2)), (c3, .inl (T 0, 24, .inl f3)), (c4, .inl (T 0, 24, .inl f4)), (c5, .inl (T 0, 24, .inl f5)), (p0, .inl (T 1, 676, .inr (.inl g0))), (p1, .inl (T 1, 676, .inr (.inl g1))), (p4, .inl (T 0, 672, .inl g4))] sz) := by
  refine Met.ofW (cc := cX11_takenOn) (maxL := 9) (ret := (some .int)) (by decide +kernel) rfl ?_
  intro p e s m args below meth c s₁ B hml hv
  obtain ⟨rfl, hsz, hP, hE, hD0, hV⟩ := hv
  have hx := B.exec
  have hb := B.bytes
  have hr := B.returns
  have hts := atoms_spec (ws := wsX11_takenOn) B.pre
  have hown : s.vm.findClass RX11 = some m.cls := findClass_of_methodNamed B.named
  have hlocks := B.notSynchronized
  subst hsz
  have hD := hD0.self (sz := s.heap.size)
  generalize hAe : va_A [(h0, .inr (8, [.ref la, .ref cl, .ref p0, .ref p1, .ref p4, .int n])), (la, .inr (5, [.int (l9 0), .int (l9 1), .int (l9 2), .int (l9 3), .int (l9 4), .int (l9 5), .int (l9 6)])), (cl, .inr (1, [.int n0, .ref c1, .ref c2, .ref c3, .ref c4, .ref c5, .ref c6, .ref c7])), (c1, .inl (T 0, 24, .inl f1)), (c2, .inl (T 0, 24, .inl f2)), (c3, .inl (T 0, 24, .inl f3)), (c4, .inl (T 0, 24, .inl f4)), (c5, .inl (T 0, 24, .inl f5)), (p0, .inl (T 1, 676, .inr (.inl g0))), (p1, .inl (T 1, 676, .inr (.inl g1))), (p4, .inl (T 0, 672, .inl g4))] s.heap.size = A at hD hV ⊢
  have hA : ∀ q : Nat, s.heap.size ≤ q → A q := fun q h => by rw [← hAe]; exact Or.inr h
  have hS : va_S A s.heap s.heap [] := va_S.rf
  have hP : va_P D vwCl [(h0, .inr (8, [.ref la, .ref cl, .ref p0, .ref p1, .ref p4, .int n])), (la, .inr (5, [.int (l9 0), .int (l9 1), .int (l9 2), .int (l9 3), .int (l9 4), .int (l9 5), .int (l9 6)])), (cl, .inr (1, [.int n0, .ref c1, .ref c2, .ref c3, .ref c4, .ref c5, .ref c6, .ref c7])), (c1, .inl (T 0, 24, .inl f1)), (c2, .inl (T 0, 24, .inl f2)), (c3, .inl (T 0, 24, .inl f3)), (c4, .inl (T 0, 24, .inl f4)), (c5, .inl (T 0, 24, .inl f5)), (p0, .inl (T 1, 676, .inr (.inl g0))), (p1, .inl (T 1, 676, .inr (.inl g1))), (p4, .inl (T 0, 672, .inl g4))] s.heap := hP
  have hl := lv_entry ([.ref h0, .int x1, .int x2, .int x3]) (n := 9) (Nat.le_of_ble_eq_true rfl)
  rw [lg_entry_eq]
  generalize (lg_sl ([.ref h0, .int x1, .int x2, .int x3]) ++ List.replicate (9 - (lg_sl ([.ref h0, .int x1, .int x2, .int x3])).length) Slot.unset).toArray = ls at hl ⊢
  have hl : lv_has ls 9 [(0, .ref h0), (1, .int x1), (2, .int x2), (3, .int x3)] := hl
  have he6 : (f5 (x1.toNatClampNeg)).toInt ≤ 6 := (hok _ (in24 (x := x1) (by omega)).1).2.2.2
  clear hD0
  have hst : stW (VALW l9 f1 f2 f3 f4 f5) n0 n (fun _ => True) g0 g1 g4 g0 g1 g4 := stW_rf hmm
  refine lv_aload_n hx hb dX11_takenOn_0 rfl (lv_at hl 0 rfl) ?_
  refine va_get (D := D) (ci := 8) (v := .ref cl) (C := RX11) (T := TX11) (N := 6) hx hb hts in_X11_takenOn_X11 hown hE.1 hP 0 rfl rfl 1 (by decide +kernel) (hts (.fieldLink RX11 30 "ClauseBook$Worth" "clauses" "LClauseBook$Clauses;") (List.mem_of_getElem? (i := 1) rfl)) (fun _ h9 => h9) rfl dX11_takenOn_1 ?_
  refine va_get (D := D) (ci := 1) (v := .ref c3) (C := RX2) (T := TX2) (N := 8) hx hb hts in_X11_takenOn_X2 hown hE.1 hP 2 rfl rfl 3 (by decide +kernel) (hts (.fieldLink RX11 40 "ClauseBook$Clauses" "c" "[I") (List.mem_of_getElem? (i := 2) rfl)) (fun _ h9 => h9) rfl dX11_takenOn_4 ?_
  refine lv_iload_n hx hb dX11_takenOn_7 rfl (lv_at hl 1 rfl) ?_
  refine va_iald hx hb hE.1 hP 5 0 rfl rfl (by rw [vp_in_iff]; first | omega | (subst_vars; omega)) dX11_takenOn_8 ?_
  refine lv_topi (fun z_1 ez_1 => ?_)
  refine lv_istore (lv' := [(4, .int z_1), (0, .ref h0), (1, .int x1), (2, .int x2), (3, .int x3)]) hx hb dX11_takenOn_9 hl (by decide +kernel) rfl (fun ls hl => ?_)
  have hc9 : 0 ≤ z_1.toInt ∧ z_1.toInt < x1.toInt := by
    have h := (hok _ (in24 (x := x1) (by omega)).1).2.1 (by rw [hk11]; decide)
    have h2 := (in24 (x := x1) (by omega)).2
    rw [ez_1]
    omega
  refine lv_aload_n hx hb dX11_takenOn_11 rfl (lv_at hl 1 rfl) ?_
  refine va_get (D := D) (ci := 8) (v := .ref cl) (C := RX11) (T := TX11) (N := 6) hx hb hts in_X11_takenOn_X11 hown hE.1 hP 0 rfl rfl 1 (by decide +kernel) (hts (.fieldLink RX11 30 "ClauseBook$Worth" "clauses" "LClauseBook$Clauses;") (List.mem_of_getElem? (i := 1) rfl)) (fun _ h9 => h9) rfl dX11_takenOn_12 ?_
  refine va_get (D := D) (ci := 1) (v := .ref c5) (C := RX2) (T := TX2) (N := 8) hx hb hts in_X11_takenOn_X2 hown hE.1 hP 2 rfl rfl 5 (by decide +kernel) (hts (.fieldLink RX11 45 "ClauseBook$Clauses" "end" "[I") (List.mem_of_getElem? (i := 3) rfl)) (fun _ h9 => h9) rfl dX11_takenOn_15 ?_
  refine lv_iload_n hx hb dX11_takenOn_18 rfl (lv_at hl 2 rfl) ?_
  refine va_iald hx hb hE.1 hP 7 0 rfl rfl (by rw [vp_in_iff]; first | omega | (subst_vars; omega)) dX11_takenOn_19 ?_
  refine lv_topi (fun z_2 ez_2 => ?_)
  refine lv_istore (lv' := [(5, .int z_2), (4, .int z_1), (0, .ref h0), (1, .int x1), (2, .int x2), (3, .int x3)]) hx hb dX11_takenOn_20 hl (by decide +kernel) rfl (fun ls hl => ?_)
  have hz9 : z_2.toInt = (f5 (x1.toNatClampNeg)).toInt := by rw [ez_2]
  refine lv_iload_n hx hb dX11_takenOn_22 rfl (lv_at hl 4 rfl) ?_
  refine lv_istore (lv' := [(6, .int x2), (5, .int z_2), (4, .int z_1), (0, .ref h0), (1, .int x1), (2, .int x2), (3, .int x3)]) hx hb dX11_takenOn_23 hl (by decide +kernel) rfl (fun ls hl => ?_)
  refine loopW (σ := (Int32) × (Nat → Int64) × (Nat → Int64) × (Nat → Int32)) (fun x9 ls H locs => lv_has ls 9 [(6, .int x9.1), (5, .int z_2), (4, .int z_1), (0, .ref h0), (1, .int x1), (2, .int x2), (3, .int x3)] ∧ va_P D vwCl [(h0, .inr (8, [.ref la, .ref cl, .ref p0, .ref p1, .ref p4, .int n])), (la, .inr (5, [.int (l9 0), .int (l9 1), .int (l9 2), .int (l9 3), .int (l9 4), .int (l9 5), .int (l9 6)])), (cl, .inr (1, [.int n0, .ref c1, .ref c2, .ref c3, .ref c4, .ref c5, .ref c6, .ref c7])), (c1, .inl (T 0, 24, .inl f1)), (c2, .inl (T 0, 24, .inl f2)), (c3, .inl (T 0, 24, .inl f3)), (c4, .inl (T 0, 24, .inl f4)), (c5, .inl (T 0, 24, .inl f5)), (p0, .inl (T 1, 676, .inr (.inl x9.2.1))), (p1, .inl (T 1, 676, .inr (.inl x9.2.2.1))), (p4, .inl (T 0, 672, .inl x9.2.2.2))] H ∧ va_D A [(h0, .inr (8, [.ref la, .ref cl, .ref p0, .ref p1, .ref p4, .int n])), (la, .inr (5, [.int (l9 0), .int (l9 1), .int (l9 2), .int (l9 3), .int (l9 4), .int (l9 5), .int (l9 6)])), (cl, .inr (1, [.int n0, .ref c1, .ref c2, .ref c3, .ref c4, .ref c5, .ref c6, .ref c7])), (c1, .inl (T 0, 24, .inl f1)), (c2, .inl (T 0, 24, .inl f2)), (c3, .inl (T 0, 24, .inl f3)), (c4, .inl (T 0, 24, .inl f4)), (c5, .inl (T 0, 24, .inl f5)), (p0, .inl (T 1, 676, .inr (.inl x9.2.1))), (p1, .inl (T 1, 676, .inr (.inl x9.2.2.1))), (p4, .inl (T 0, 672, .inl x9.2.2.2))] ∧ va_S A s.heap H locs ∧ ((x2.toInt ≤ x9.1.toInt ∧ x9.1.toInt ≤ z_2.toInt) ∧ stW (VALW l9 f1 f2 f3 f4 f5) n0 n (fun _ => True) g0 g1 g4 x9.2.1 x9.2.2.1 x9.2.2.2 ∧ ∀ s : Int32, x2.toInt ≤ s.toInt → s.toInt < x9.1.toInt → tkN l9 f3 (VALW l9 f1 f2 f3 f4 f5) x1 x3 s)) (fun x9 => (7 - x9.1.toInt).toNat) (fun x9 ls H locs hI ih => ?_) (x2, g0, g1, g4) ls ⟨lv_sub hl [0, 1, 2, 3, 4, 5, 6] rfl, hP.sub [0, 1, 2, 3, 4, 5, 6, 7, 8, 9, 10] rfl, hD.sub [0, 1, 2, 3, 4, 5, 6, 7, 8, 9, 10] (by decide +kernel) rfl, hS, ⟨(by (try dsimp only); omega), hst, upto_0⟩⟩
  obtain ⟨tt, v0, v1, v4⟩ := x9
  obtain ⟨hl, hP, hD, hS, hinv⟩ := hI
  have hl : lv_has ls 9 [(6, .int tt), (5, .int z_2), (4, .int z_1), (0, .ref h0), (1, .int x1), (2, .int x2), (3, .int x3)] := hl
  have hP : va_P D vwCl [(h0, .inr (8, [.ref la, .ref cl, .ref p0, .ref p1, .ref p4, .int n])), (la, .inr (5, [.int (l9 0), .int (l9 1), .int (l9 2), .int (l9 3), .int (l9 4), .int (l9 5), .int (l9 6)])), (cl, .inr (1, [.int n0, .ref c1, .ref c2, .ref c3, .ref c4, .ref c5, .ref c6, .ref c7])), (c1, .inl (T 0, 24, .inl f1)), (c2, .inl (T 0, 24, .inl f2)), (c3, .inl (T 0, 24, .inl f3)), (c4, .inl (T 0, 24, .inl f4)), (c5, .inl (T 0, 24, .inl f5)), (p0, .inl (T 1, 676, .inr (.inl v0))), (p1, .inl (T 1, 676, .inr (.inl v1))), (p4, .inl (T 0, 672, .inl v4))] H := hP
  have hD : va_D A [(h0, .inr (8, [.ref la, .ref cl, .ref p0, .ref p1, .ref p4, .int n])), (la, .inr (5, [.int (l9 0), .int (l9 1), .int (l9 2), .int (l9 3), .int (l9 4), .int (l9 5), .int (l9 6)])), (cl, .inr (1, [.int n0, .ref c1, .ref c2, .ref c3, .ref c4, .ref c5, .ref c6, .ref c7])), (c1, .inl (T 0, 24, .inl f1)), (c2, .inl (T 0, 24, .inl f2)), (c3, .inl (T 0, 24, .inl f3)), (c4, .inl (T 0, 24, .inl f4)), (c5, .inl (T 0, 24, .inl f5)), (p0, .inl (T 1, 676, .inr (.inl v0))), (p1, .inl (T 1, 676, .inr (.inl v1))), (p4, .inl (T 0, 672, .inl v4))] := hD
  have hinv : (x2.toInt ≤ tt.toInt ∧ tt.toInt ≤ z_2.toInt) ∧ stW (VALW l9 f1 f2 f3 f4 f5) n0 n (fun _ => True) g0 g1 g4 v0 v1 v4 ∧ ∀ s : Int32, x2.toInt ≤ s.toInt → s.toInt < tt.toInt → tkN l9 f3 (VALW l9 f1 f2 f3 f4 f5) x1 x3 s := hinv
  obtain ⟨hinv, hst, hno⟩ := hinv
  have hmm : memW (VALW l9 f1 f2 f3 f4 f5) n0 n v0 v1 v4 := hst.1
  refine lv_iload hx hb dX11_takenOn_25 (lv_at hl 0 rfl) ?_
  refine lv_iload hx hb dX11_takenOn_27 (lv_at hl 1 rfl) ?_
  refine lv_icmp_ge (tgt := 107) hx hb dX11_takenOn_29 (by decide +kernel) (fun c_3 => ?_) (fun c_3 => ?_)
  · rw [fa_le] at c_3
    refine lv_iload hx hb dX11_takenOn_107 (lv_at hl 1 rfl) ?_
    exact W.iret hx hb hr (fun t ht hW => ⟨⟨_, (v0, v1, v4), rfl, ⟨(Or.inr (by omega)), (Or.inr ⟨(by omega), (by omega), (fun h9 => by exfalso; omega), (fun s9 h8 h7 => hno s9 h8 (by omega))⟩), hst⟩, by rw [ht]; exact hP.sub [0, 1, 2, 3, 4, 5, 6, 7, 8, 9, 10] rfl, hD.sub [0, 1, 2, 3, 4, 5, 6, 7, 8, 9, 10] (by decide +kernel) rfl⟩, hS.F ht⟩) hS.2.2 dX11_takenOn_109
  · rw [fa_le] at c_3
    refine lv_iload_n hx hb dX11_takenOn_32 rfl (lv_at hl 6 rfl) ?_
    refine lv_iload hx hb dX11_takenOn_33 (lv_at hl 0 rfl) ?_
    refine vp_callSi (W.runS (As := [.int x3, .int tt]) (rest := []) ⟨hx, hb, hml, hown, hts⟩ (c_X8_spotOn l D T x3 tt) (va_cwS 2 hts gX11_takenOn_X8_spotOn rfl rfl rfl hs_X8_spotOn ⟨Nat.le_of_ble_eq_true rfl, Nat.le_of_ble_eq_true rfl⟩) (pR_S hP hE [] rfl) rfl rfl hl.1 rfl (lv_room (Nat.le_of_ble_eq_true rfl)) dX11_takenOn_35 ⟨Nat.le_of_ble_eq_true rfl, Nat.le_of_ble_eq_true rfl⟩) (fun r_4 hr_4 => ?_)
    obtain rfl : (sp_bits (x3 &&& ((1 <<< (tt &&& 31)) - 1))) = r_4 := (hr_4).symm
    refine lv_topi (fun z_5 ez_5 => ?_)
    refine lv_istore (lv' := [(7, .int z_5), (6, .int tt), (5, .int z_2), (4, .int z_1), (0, .ref h0), (1, .int x1), (2, .int x2), (3, .int x3)]) hx hb dX11_takenOn_38 hl (by decide +kernel) rfl (fun ls hl => ?_)
    have hsp9 : 0 ≤ z_5.toInt ∧ z_5.toInt ≤ tt.toInt := by rw [ez_5]; exact spot_in (by omega) (by omega)
    refine lv_aload_n hx hb dX11_takenOn_40 rfl (lv_at hl 4 rfl) ?_
    refine lv_iload hx hb dX11_takenOn_41 (lv_at hl 3 rfl) ?_
    refine lv_iload hx hb dX11_takenOn_43 (lv_at hl 1 rfl) ?_
    refine lv_iload hx hb dX11_takenOn_45 (lv_at hl 0 rfl) ?_
    have hFc := va_free (wc := [(h0, .inr (8, [.ref la, .ref cl, .ref p0, .ref p1, .ref p4, .int n])), (la, .inr (5, [.int (l9 0), .int (l9 1), .int (l9 2), .int (l9 3), .int (l9 4), .int (l9 5), .int (l9 6)])), (cl, .inr (1, [.int n0, .ref c1, .ref c2, .ref c3, .ref c4, .ref c5, .ref c6, .ref c7])), (c1, .inl (T 0, 24, .inl f1)), (c2, .inl (T 0, 24, .inl f2)), (c3, .inl (T 0, 24, .inl f3)), (c4, .inl (T 0, 24, .inl f4)), (c5, .inl (T 0, 24, .inl f5)), (p0, .inl (T 1, 676, .inr (.inl v0))), (p1, .inl (T 1, 676, .inr (.inl v1))), (p4, .inl (T 0, 672, .inl v4))]) hD hS hA [0, 1, 2, 3, 4, 5, 6, 7, 8, 9, 10] rfl
    refine va_calli (va_runV (As := [.int z_1, .int tt, .int z_5]) (rest := []) ⟨hx, hb, hml, hown, hts⟩ (cS_all l D T ad sa av ta 30 _ h0 la cl p0 p1 p4 n l9 n0 c1 c2 c3 c4 c5 c6 c7 f1 f2 f3 f4 f5 v0 v1 v4 z_1 tt z_5 (by omega) (by omega) (by omega) hok (by omega) hmm hlq (by omega)) (cwV 3 hts gX11_takenOn_X11_settle rfl rfl rfl hv_X11_settle ⟨Nat.le_of_ble_eq_true rfl, Nat.le_of_ble_eq_true rfl⟩) (pWk_V (q := (RX11, TX11, 6)) (ci := 8) (q0 := 0) hP hE hD hV hS hFc rfl rfl [0, 1, 2, 3, 4, 5, 6, 7, 8, 9, 10] (by decide +kernel) rfl rfl) rfl rfl hl.1 rfl (lv_room (Nat.le_of_ble_eq_true rfl)) dX11_takenOn_47 ⟨Nat.le_of_ble_eq_true rfl, Nat.le_of_ble_eq_true rfl⟩) hS (fun q _ h => hFc q h) hFc (fun r_6 u_7 t H1 locs ht hvm hr_6 hB hz1 hk1 hS => ?_)
    obtain ⟨f_8, f_9, f_10⟩ := u_7
    obtain ⟨hqr_6, hsl_r_6, hfo_r_6, hstr_6⟩ := hr_6
    have hqr_6 : 0 ≤ r_6.toInt ∧ r_6.toInt < 672 := hqr_6
    have hsl_r_6 : r_6.toNatClampNeg = slN z_1 tt z_5 := hsl_r_6
    have hfo_r_6 : f_10 (slN z_1 tt z_5) = n := hfo_r_6
    have hsr_6 : stW (VALW l9 f1 f2 f3 f4 f5) n0 n (rgW z_1 tt) v0 v1 v4 f_8 f_9 f_10 := hstr_6
    have hst : stW (VALW l9 f1 f2 f3 f4 f5) n0 n (fun _ => True) g0 g1 g4 f_8 f_9 f_10 := hst.tr hsr_6 (fun _ _ => trivial)
    have hmm : memW (VALW l9 f1 f2 f3 f4 f5) n0 n f_8 f_9 f_10 := hst.1
    have hv_r_6 : (f_8 (r_6.toNatClampNeg), f_9 (r_6.toNatClampNeg)) = (VALW l9 f1 f2 f3 f4 f5) z_1 tt z_5 := hst.val (by omega) (by omega) (by first | omega | (rw [ti_0]; omega)) hsl_r_6 hfo_r_6
    have hb_r_6 : 0 ≤ (f_9 (r_6.toNatClampNeg)).toInt := val_nn (VAL_low hlq.1 hlq.2 31 _ _ _) hv_r_6
    obtain ⟨hP1, hD1⟩ := hB
    rw [ht] at hP1
    obtain ⟨hP, hD⟩ := va_repl [(h0, .inr (8, [.ref la, .ref cl, .ref p0, .ref p1, .ref p4, .int n])), (la, .inr (5, [.int (l9 0), .int (l9 1), .int (l9 2), .int (l9 3), .int (l9 4), .int (l9 5), .int (l9 6)])), (cl, .inr (1, [.int n0, .ref c1, .ref c2, .ref c3, .ref c4, .ref c5, .ref c6, .ref c7])), (c1, .inl (T 0, 24, .inl f1)), (c2, .inl (T 0, 24, .inl f2)), (c3, .inl (T 0, 24, .inl f3)), (c4, .inl (T 0, 24, .inl f4)), (c5, .inl (T 0, 24, .inl f5)), (p0, .inl (T 1, 676, .inr (.inl f_8))), (p1, .inl (T 1, 676, .inr (.inl f_9))), (p4, .inl (T 0, 672, .inl f_10))] hP hD [0, 1, 2, 3, 4, 5, 6, 7, 8, 9, 10] [0, 1, 2, 3, 4, 5, 6, 7, 8, 9, 10] rfl (by decide +kernel) rfl rfl rfl hk1 hP1
    clear hP1 hD1 hFc
    generalize H1 = H at hP hS ⊢
    refine lv_istore (lv' := [(8, .int r_6), (7, .int z_5), (6, .int tt), (5, .int z_2), (4, .int z_1), (0, .ref h0), (1, .int x1), (2, .int x2), (3, .int x3)]) hx hb dX11_takenOn_50 hl (by decide +kernel) rfl (fun ls hl => ?_)
    refine lv_aload_n hx hb dX11_takenOn_52 rfl (lv_at hl 5 rfl) ?_
    refine lv_sipush (v := 674) hx hb dX11_takenOn_53 (by decide +kernel) ?_
    refine lv_iload_n hx hb dX11_takenOn_56 rfl (lv_at hl 6 rfl) ?_
    refine lv_iload hx hb dX11_takenOn_57 (lv_at hl 2 rfl) ?_
    refine lv_iload hx hb dX11_takenOn_59 (lv_at hl 1 rfl) ?_
    have hFc := va_free (wc := [(h0, .inr (8, [.ref la, .ref cl, .ref p0, .ref p1, .ref p4, .int n])), (la, .inr (5, [.int (l9 0), .int (l9 1), .int (l9 2), .int (l9 3), .int (l9 4), .int (l9 5), .int (l9 6)])), (cl, .inr (1, [.int n0, .ref c1, .ref c2, .ref c3, .ref c4, .ref c5, .ref c6, .ref c7])), (c1, .inl (T 0, 24, .inl f1)), (c2, .inl (T 0, 24, .inl f2)), (c3, .inl (T 0, 24, .inl f3)), (c4, .inl (T 0, 24, .inl f4)), (c5, .inl (T 0, 24, .inl f5)), (p0, .inl (T 1, 676, .inr (.inl f_8))), (p1, .inl (T 1, 676, .inr (.inl f_9))), (p4, .inl (T 0, 672, .inl f_10))]) hD hS hA [0, 1, 2, 3, 4, 5, 6, 7, 8, 9, 10] rfl
    refine va_callv (va_runV (As := [.int 674, .int x1, .int tt, .int z_5]) (rest := []) ⟨hx, hb, hml, hown, hts⟩ (s_X11_average l D T ad sa av ta _ h0 la cl p0 p1 p4 n l9 n0 c1 c2 c3 c4 c5 c6 c7 f1 f2 f3 f4 f5 f_8 f_9 f_10 30 674 x1 tt z_5 (by first | decide | omega) (by omega) (by omega) (by omega) hok (by omega) hmm hlq (by decide +kernel) (fun h9 => absurd h9 (by decide +kernel)) (by omega) (cS_all l D T ad sa av ta 30)) (cwV 4 hts gX11_takenOn_X11_average rfl rfl rfl hv_X11_average ⟨Nat.le_of_ble_eq_true rfl, Nat.le_of_ble_eq_true rfl⟩) (pWk_V (q := (RX11, TX11, 6)) (ci := 8) (q0 := 0) hP hE hD hV hS hFc rfl rfl [0, 1, 2, 3, 4, 5, 6, 7, 8, 9, 10] (by decide +kernel) rfl rfl) rfl rfl hl.1 rfl (lv_room (Nat.le_of_ble_eq_true rfl)) dX11_takenOn_61 ⟨Nat.le_of_ble_eq_true rfl, Nat.le_of_ble_eq_true rfl⟩) hS (fun q _ h => hFc q h) hFc (fun u_12 t H1 locs ht hvm hr_11 hB hz1 hk1 hS => ?_)
    obtain ⟨f_13, f_14, f_15⟩ := u_12
    have hsahr_11 : stW (VALW l9 f1 f2 f3 f4 f5) n0 n (rgA (674 : Int32) x1 tt) f_8 f_9 f_10 f_13 f_14 f_15 := hr_11.1
    have hst : stW (VALW l9 f1 f2 f3 f4 f5) n0 n (fun _ => True) g0 g1 g4 f_13 f_14 f_15 := hst.tr hsahr_11 (fun _ _ => trivial)
    have hmm : memW (VALW l9 f1 f2 f3 f4 f5) n0 n f_13 f_14 f_15 := hst.1
    have hfo_r_6 : f_15 (slN z_1 tt z_5) = n := hsahr_11.2.1 _ (slN_lt (by omega) (by omega) (by omega)) hfo_r_6
    have hv_r_6 : (f_13 (r_6.toNatClampNeg), f_14 (r_6.toNatClampNeg)) = (VALW l9 f1 f2 f3 f4 f5) z_1 tt z_5 := hst.val (by omega) (by omega) (by omega) hsl_r_6 hfo_r_6
    have hb_r_6 : 0 ≤ (f_14 (r_6.toNatClampNeg)).toInt := val_nn (VAL_low hlq.1 hlq.2 31 _ _ _) hv_r_6
    have hp_674 : (f_13 ((674 : Int32).toNatClampNeg), f_14 ((674 : Int32).toNatClampNeg)) = avgW l9 (VALW l9 f1 f2 f3 f4 f5) x1 tt z_5 := hr_11.2.1
    obtain ⟨hP1, hD1⟩ := hB
    rw [ht] at hP1
    obtain ⟨hP, hD⟩ := va_repl [(h0, .inr (8, [.ref la, .ref cl, .ref p0, .ref p1, .ref p4, .int n])), (la, .inr (5, [.int (l9 0), .int (l9 1), .int (l9 2), .int (l9 3), .int (l9 4), .int (l9 5), .int (l9 6)])), (cl, .inr (1, [.int n0, .ref c1, .ref c2, .ref c3, .ref c4, .ref c5, .ref c6, .ref c7])), (c1, .inl (T 0, 24, .inl f1)), (c2, .inl (T 0, 24, .inl f2)), (c3, .inl (T 0, 24, .inl f3)), (c4, .inl (T 0, 24, .inl f4)), (c5, .inl (T 0, 24, .inl f5)), (p0, .inl (T 1, 676, .inr (.inl f_13))), (p1, .inl (T 1, 676, .inr (.inl f_14))), (p4, .inl (T 0, 672, .inl f_15))] hP hD [0, 1, 2, 3, 4, 5, 6, 7, 8, 9, 10] [0, 1, 2, 3, 4, 5, 6, 7, 8, 9, 10] rfl (by decide +kernel) rfl rfl rfl hk1 hP1
    clear hP1 hD1 hFc
    generalize H1 = H at hP hS ⊢
    have hb674 : 0 ≤ (f_14 ((674 : Int32).toNatClampNeg)).toInt := val_nn (mulW_low (addW_low (mulW_low (VAL_low hlq.1 hlq.2 31 _ _ _) (by decide +kernel)) (mulW_low (VAL_low hlq.1 hlq.2 31 _ _ _) (by decide +kernel))) (wt_pos hlq.1 hlq.2)) hp_674
    have hsp8 : spW x3 tt = z_5 := ez_5.symm
    have hVc : (VALW l9 f1 f2 f3 f4 f5) (f3 (x1.toNatClampNeg)) tt (spW x3 tt) = ((f_13 (r_6.toNatClampNeg)), (f_14 (r_6.toNatClampNeg))) := by rw [← ez_1, hsp8]; exact hv_r_6.symm
    have hVa : avgW l9 (VALW l9 f1 f2 f3 f4 f5) x1 tt (spW x3 tt) = ((f_13 ((674 : Int32).toNatClampNeg)), (f_14 ((674 : Int32).toNatClampNeg))) := by rw [hsp8]; exact hp_674.symm
    refine lv_aload_n hx hb dX11_takenOn_64 rfl (lv_at hl 5 rfl) ?_
    refine lv_iload hx hb dX11_takenOn_65 (lv_at hl 0 rfl) ?_
    refine vp_callSi (W.runV (As := [.int r_6]) (rest := []) ⟨hx, hb, hml, hown, hts⟩ (c_X11_isMuch l D T h0 [.ref la, .ref cl, .ref p0, .ref p1, .ref p4, .int n] p1 f_14 r_6 rfl (by first | decide | omega)) (cwV 1 hts gX11_takenOn_X11_isMuch rfl rfl rfl hv_X11_isMuch ⟨Nat.le_of_ble_eq_true rfl, Nat.le_of_ble_eq_true rfl⟩) (pR_V (q := (RX11, TX11, 6)) (ci := 8) (q0 := 0) hP hE rfl rfl [0, 9] rfl) rfl rfl hl.1 rfl (lv_room (Nat.le_of_ble_eq_true rfl)) dX11_takenOn_67 ⟨Nat.le_of_ble_eq_true rfl, Nat.le_of_ble_eq_true rfl⟩) (fun r_16 hr_16 => ?_)
    rcases bool_post hr_16 with ⟨c_17, rfl⟩ | ⟨c_17, rfl⟩
    · refine lv_if_ne (tgt := 83) hx hb dX11_takenOn_70 (by decide +kernel) (fun _ => ?_) (fun c9 => absurd c9 (by decide +kernel))
      refine lv_bipush (v := (-5)) hx hb dX11_takenOn_83 (by decide +kernel) ?_
      exact W.iret hx hb hr (fun t ht hW => ⟨⟨_, (f_13, f_14, f_15), rfl, ⟨(Or.inl (by decide +kernel)), (Or.inl ⟨(by decide +kernel), tt, (by omega), (by omega), (show tkM l9 f3 (VALW l9 f1 f2 f3 f4 f5) x1 x3 tt from by unfold tkM; rw [hVc, hVa]; first | exact Or.inl (show (f_14 (r_6.toNatClampNeg)).toInt = 0 from by omega) | exact Or.inr (show (f_14 ((674 : Int32).toNatClampNeg)).toInt = 0 from by omega)), hno⟩), hst⟩, by rw [ht]; exact hP.sub [0, 1, 2, 3, 4, 5, 6, 7, 8, 9, 10] rfl, hD.sub [0, 1, 2, 3, 4, 5, 6, 7, 8, 9, 10] (by decide +kernel) rfl⟩, hS.F ht⟩) hS.2.2 dX11_takenOn_85
    · refine lv_if_ne (tgt := 83) hx hb dX11_takenOn_70 (by decide +kernel) (fun c9 => absurd c9 (by decide +kernel)) (fun _ => ?_)
      refine lv_aload_n hx hb dX11_takenOn_73 rfl (lv_at hl 5 rfl) ?_
      refine lv_sipush (v := 674) hx hb dX11_takenOn_74 (by decide +kernel) ?_
      refine vp_callSi (W.runV (As := [.int 674]) (rest := []) ⟨hx, hb, hml, hown, hts⟩ (c_X11_isMuch l D T h0 [.ref la, .ref cl, .ref p0, .ref p1, .ref p4, .int n] p1 f_14 674 rfl (by first | decide | omega)) (cwV 1 hts gX11_takenOn_X11_isMuch rfl rfl rfl hv_X11_isMuch ⟨Nat.le_of_ble_eq_true rfl, Nat.le_of_ble_eq_true rfl⟩) (pR_V (q := (RX11, TX11, 6)) (ci := 8) (q0 := 0) hP hE rfl rfl [0, 9] rfl) rfl rfl hl.1 rfl (lv_room (Nat.le_of_ble_eq_true rfl)) dX11_takenOn_77 ⟨Nat.le_of_ble_eq_true rfl, Nat.le_of_ble_eq_true rfl⟩) (fun r_18 hr_18 => ?_)
      rcases bool_post hr_18 with ⟨c_19, rfl⟩ | ⟨c_19, rfl⟩
      · refine lv_if_eq (tgt := 86) hx hb dX11_takenOn_80 (by decide +kernel) (fun c9 => absurd c9 (by decide +kernel)) (fun _ => ?_)
        refine lv_bipush (v := (-5)) hx hb dX11_takenOn_83 (by decide +kernel) ?_
        exact W.iret hx hb hr (fun t ht hW => ⟨⟨_, (f_13, f_14, f_15), rfl, ⟨(Or.inl (by decide +kernel)), (Or.inl ⟨(by decide +kernel), tt, (by omega), (by omega), (show tkM l9 f3 (VALW l9 f1 f2 f3 f4 f5) x1 x3 tt from by unfold tkM; rw [hVc, hVa]; first | exact Or.inl (show (f_14 (r_6.toNatClampNeg)).toInt = 0 from by omega) | exact Or.inr (show (f_14 ((674 : Int32).toNatClampNeg)).toInt = 0 from by omega)), hno⟩), hst⟩, by rw [ht]; exact hP.sub [0, 1, 2, 3, 4, 5, 6, 7, 8, 9, 10] rfl, hD.sub [0, 1, 2, 3, 4, 5, 6, 7, 8, 9, 10] (by decide +kernel) rfl⟩, hS.F ht⟩) hS.2.2 dX11_takenOn_85
      · refine lv_if_eq (tgt := 86) hx hb dX11_takenOn_80 (by decide +kernel) (fun _ => ?_) (fun c9 => absurd c9 (by decide +kernel))
        refine lv_aload_n hx hb dX11_takenOn_86 rfl (lv_at hl 5 rfl) ?_
        refine lv_iload hx hb dX11_takenOn_87 (lv_at hl 0 rfl) ?_
        refine lv_sipush (v := 674) hx hb dX11_takenOn_89 (by decide +kernel) ?_
        refine vp_callSi (W.runV (As := [.int r_6, .int 674]) (rest := []) ⟨hx, hb, hml, hown, hts⟩ (c_X11_order l D T h0 [.ref la, .ref cl, .ref p0, .ref p1, .ref p4, .int n] p1 f_14 p0 f_13 r_6 674 rfl rfl (by first | decide | omega) (by first | decide | omega) (by first | omega | assumption | decide) (by first | omega | assumption | decide)) (cwV 2 hts gX11_takenOn_X11_order rfl rfl rfl hv_X11_order ⟨Nat.le_of_ble_eq_true rfl, Nat.le_of_ble_eq_true rfl⟩) (pR_V (q := (RX11, TX11, 6)) (ci := 8) (q0 := 0) hP hE rfl rfl [0, 9, 8] rfl) rfl rfl hl.1 rfl (lv_room (Nat.le_of_ble_eq_true rfl)) dX11_takenOn_92 ⟨Nat.le_of_ble_eq_true rfl, Nat.le_of_ble_eq_true rfl⟩) (fun r_20 hr_20 => ?_)
        refine lv_if_lt (tgt := 101) hx hb dX11_takenOn_95 (by decide +kernel) (fun c_21 => ?_) (fun c_21 => ?_)
        · rw [fa_lt] at c_21
          try rw [ti_0] at c_21
          obtain ⟨z_22, ez_22⟩ : ∃ y : Int32, y = tt + 1 := ⟨_, rfl⟩
          refine lv_iinc (v := z_22) (lv' := [(6, .int z_22), (8, .int r_6), (7, .int z_5), (5, .int z_2), (4, .int z_1), (0, .ref h0), (1, .int x1), (2, .int x2), (3, .int x3)]) hx hb dX11_takenOn_101 hl (k := 2) rfl (by rw [ez_22]; rfl) (by decide +kernel) rfl (fun ls hl => ?_)
          refine lv_goto (tgt := 25) hx hb dX11_takenOn_104 (by decide +kernel) ?_
          have hi9 : z_22.toInt = tt.toInt + 1 := by rw [ez_22]; exact inc1 (n := 1000) (by omega) (by decide +kernel)
          exact ih (z_22, f_13, f_14, f_15) ls _ _ ⟨lv_sub hl [0, 3, 4, 5, 6, 7, 8] rfl, hP.sub [0, 1, 2, 3, 4, 5, 6, 7, 8, 9, 10] rfl, hD.sub [0, 1, 2, 3, 4, 5, 6, 7, 8, 9, 10] (by decide +kernel) rfl, hS, ⟨(by (try dsimp only); omega), hst, upto_step hno ⟨(show ¬ tkM l9 f3 (VALW l9 f1 f2 f3 f4 f5) x1 x3 tt from by unfold tkM; rw [hVc, hVa]; intro h9; rcases h9 with h9 | h9 <;> first | exact absurd (show (f_14 (r_6.toNatClampNeg)).toInt = 0 from h9) (by omega) | exact absurd (show (f_14 ((674 : Int32).toNatClampNeg)).toInt = 0 from h9) (by omega)), (by unfold tkS; rw [hVc, hVa]; show cmpW (f_13 (r_6.toNatClampNeg)).toInt (f_14 (r_6.toNatClampNeg)).toInt (f_13 ((674 : Int32).toNatClampNeg)).toInt (f_14 ((674 : Int32).toNatClampNeg)).toInt < 0; rw [← hr_20]; omega)⟩ hi9⟩⟩ (by (try dsimp only); omega)
        · rw [fa_lt] at c_21
          try rw [ti_0] at c_21
          refine lv_iload hx hb dX11_takenOn_98 (lv_at hl 2 rfl) ?_
          exact W.iret hx hb hr (fun t ht hW => ⟨⟨_, (f_13, f_14, f_15), rfl, ⟨(Or.inr (by omega)), (Or.inr ⟨(by omega), (by omega), (fun _ => ⟨(show ¬ tkM l9 f3 (VALW l9 f1 f2 f3 f4 f5) x1 x3 tt from by unfold tkM; rw [hVc, hVa]; intro h9; rcases h9 with h9 | h9 <;> first | exact absurd (show (f_14 (r_6.toNatClampNeg)).toInt = 0 from h9) (by omega) | exact absurd (show (f_14 ((674 : Int32).toNatClampNeg)).toInt = 0 from h9) (by omega)), (by unfold tkS; rw [hVc, hVa]; show 0 ≤ cmpW (f_13 (r_6.toNatClampNeg)).toInt (f_14 (r_6.toNatClampNeg)).toInt (f_13 ((674 : Int32).toNatClampNeg)).toInt (f_14 ((674 : Int32).toNatClampNeg)).toInt; rw [← hr_20]; omega)⟩), hno⟩), hst⟩, by rw [ht]; exact hP.sub [0, 1, 2, 3, 4, 5, 6, 7, 8, 9, 10] rfl, hD.sub [0, 1, 2, 3, 4, 5, 6, 7, 8, 9, 10] (by decide +kernel) rfl⟩, hS.F ht⟩) hS.2.2 dX11_takenOn_100
