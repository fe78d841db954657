/-! how the class reads a text, byte by byte -/
/-- between two words -/
def scJ1 (f : Nat → Int32) (n : Nat) (room : Int) (K V : Nat → Int32) (m at' : Nat) : Prop := ∃ a0 : Nat, pthT f n room K V m a0 ∧ a0 ≤ at' ∧ ∀ j : Nat, a0 ≤ j → j < at' → isBl f j
/-- between a word and its number -/
def scJ2 (f : Nat → Int32) (n : Nat) (room : Int) (K V : Nat → Int32) (m at' : Nat) : Prop := ∃ (m' a0 p e : Nat), m = m' + 1 ∧ pthT f n room K V m' a0 ∧ 0 ≤ smT K m' ∧ (rnP (isBl f) n a0 p ∧ rnP (isLe f) n p e) ∧ (0 ≤ (K m').toInt ∧ (K m').toInt ≤ 12) ∧ wordK f p e (K m').toNatClampNeg ∧ (m' : Int) + 1 + ((1 + smT K m') + (nmT (K m').toNatClampNeg).toInt - 1) ≤ room ∧ lsT (K m').toNatClampNeg ≠ msT (K m').toNatClampNeg ∧ e ≤ at' ∧ ∀ j : Nat, e ≤ j → j < at' → isBl f j
theorem scJ1_0 {f : Nat → Int32} {n : Nat} {room : Int} {K V : Nat → Int32} : scJ1 f n room K V 0 0 := ⟨0, rfl, Nat.le_refl 0, fun j _ h => absurd h (Nat.not_lt_zero j)⟩
theorem bl_more {f : Nat → Int32} {a b : Nat} (h : ∀ j : Nat, a ≤ j → j < b → isBl f j) (hb : isBl f b) : ∀ j : Nat, a ≤ j → j < b + 1 → isBl f j := by
  intro j h1 h2
  by_cases e : j = b
  · rw [e]; exact hb
  · exact h j h1 (by omega)
theorem scJ1_bl {f : Nat → Int32} {n : Nat} {room : Int} {K V : Nat → Int32} {m a : Nat} (h : scJ1 f n room K V m a) (hb : isBl f a) : scJ1 f n room K V m (a + 1) := by
  obtain ⟨a0, h1, h2, h3⟩ := h
  exact ⟨a0, h1, by omega, bl_more h3 hb⟩
theorem scJ2_bl {f : Nat → Int32} {n : Nat} {room : Int} {K V : Nat → Int32} {m a : Nat} (h : scJ2 f n room K V m a) (hb : isBl f a) : scJ2 f n room K V m (a + 1) := by
  obtain ⟨m', a0, p, e, h1, h2, h3, h4, h5, h6, h7, h8, h9, h10⟩ := h
  exact ⟨m', a0, p, e, h1, h2, h3, h4, h5, h6, h7, h8, by omega, bl_more h10 hb⟩
theorem rn_here {P : Nat → Prop} {n a b : Nat} (hab : a ≤ b) (hbn : b ≤ n) (h : ∀ j : Nat, a ≤ j → j < b → P j) (hb : b < n → ¬ P b) : rnP P n a b := ⟨⟨hab, hbn⟩, h, hb⟩
/-- a word came, without a number -/
theorem scJ1_word {f : Nat → Int32} {n : Nat} {room : Int} {K V : Nat → Int32} {m a e : Nat} {k : Int32} (h : scJ1 f n room K V m a) (ha : a < n) (hnb : ¬ isBl f a) (hle : rnP (isLe f) n a e) (hk : 0 ≤ k.toInt ∧ k.toInt ≤ 12) (hw : wordK f a e k.toNatClampNeg) (h0 : 0 ≤ smT K m) (hro : (m : Int) + 1 + ((1 + smT K m) + (nmT k.toNatClampNeg).toInt - 1) ≤ room) (hnn : lsT k.toNatClampNeg = msT k.toNatClampNeg) : scJ1 f n room (upd K m k) (upd V m 0) (m + 1) e := by
  obtain ⟨a0, h1, h2, h3⟩ := h
  have eK : ∀ j : Nat, j < m → K j = upd K m k j ∧ V j = upd V m 0 j := fun j hj => by
    simp only [upd]
    rw [if_neg (by omega), if_neg (by omega)]
    exact ⟨rfl, rfl⟩
  refine ⟨e, ⟨a0, pthT_ext m a0 eK h1, ?_, ?_⟩, Nat.le_refl e, fun j x y => absurd y (by omega)⟩
  · rw [← smT_ext m (fun j hj => (eK j hj).1)]; exact h0
  · rw [← smT_ext m (fun j hj => (eK j hj).1), show upd K m k m = k by simp only [upd, if_pos], show upd V m 0 m = 0 by simp only [upd, if_pos]]
    exact ⟨a, e, ⟨rn_here h2 (by omega) h3 (fun _ => hnb), hle⟩, hk, hw, hro, Or.inl ⟨hnn, rfl, rfl⟩⟩
/-- a word came, its number is awaited -/
theorem scJ2_word {f : Nat → Int32} {n : Nat} {room : Int} {K V : Nat → Int32} {m a e : Nat} {k : Int32} (h : scJ1 f n room K V m a) (ha : a < n) (hnb : ¬ isBl f a) (hle : rnP (isLe f) n a e) (hk : 0 ≤ k.toInt ∧ k.toInt ≤ 12) (hw : wordK f a e k.toNatClampNeg) (h0 : 0 ≤ smT K m) (hro : (m : Int) + 1 + ((1 + smT K m) + (nmT k.toNatClampNeg).toInt - 1) ≤ room) (hnn : lsT k.toNatClampNeg ≠ msT k.toNatClampNeg) : scJ2 f n room (upd K m k) (upd V m 0) (m + 1) e := by
  obtain ⟨a0, h1, h2, h3⟩ := h
  have eK : ∀ j : Nat, j < m → K j = upd K m k j ∧ V j = upd V m 0 j := fun j hj => by
    simp only [upd]
    rw [if_neg (by omega), if_neg (by omega)]
    exact ⟨rfl, rfl⟩
  have em : upd K m k m = k := by simp only [upd, if_pos]
  refine ⟨m, a0, a, e, rfl, pthT_ext m a0 eK h1, ?_, ⟨rn_here h2 (by omega) h3 (fun _ => hnb), hle⟩, by rw [em]; exact hk, by rw [em]; exact hw, ?_, by rw [em]; exact hnn, Nat.le_refl e, fun j x y => absurd y (by omega)⟩
  · rw [← smT_ext m (fun j hj => (eK j hj).1)]; exact h0
  · rw [← smT_ext m (fun j hj => (eK j hj).1), em]; exact hro
/-- its number came -/
theorem scJ2_num {f : Nat → Int32} {n : Nat} {room : Int} {K V : Nat → Int32} {m a e : Nat} {v : Int32} (h : scJ2 f n room K V m a) (ha : a < n) (hnb : ¬ isBl f a) (hv : ∀ m' : Nat, m = m' + 1 → numK f n a (K m').toNatClampNeg e v) : scJ1 f n room K (upd V (m - 1) v) m e := by
  obtain ⟨m', a0, p, e', h1, h2, h3, h4, h5, h6, h7, h8, h9, h10⟩ := h
  subst h1
  have hm : m' + 1 - 1 = m' := by omega
  rw [hm]
  have eV : ∀ j : Nat, j < m' → K j = K j ∧ V j = upd V m' v j := fun j hj => ⟨rfl, by simp only [upd]; rw [if_neg (by omega)]⟩
  refine ⟨e, ⟨a0, pthT_ext m' a0 eV h2, h3, p, e', h4, h5, h6, h7, Or.inr ⟨h8, a, rn_here h9 (by omega) h10 (fun _ => hnb), ?_⟩⟩, Nat.le_refl e, fun j x y => absurd y (by omega)⟩
  rw [show upd V m' v m' = v by simp only [upd, if_pos]]
  exact hv m' rfl
/-- the faults -/
theorem scF_word {f : Nat → Int32} {n : Nat} {room : Int} {K V : Nat → Int32} {m a e : Nat} (h : scJ1 f n room K V m a) (ha : a ≤ n) (hnb : a < n → ¬ isBl f a) (hle : rnP (isLe f) n a e) (h0 : 0 ≤ smT K m) (hb : (∀ k : Nat, ¬ wordK f a e k) ∨ ∃ k : Nat, wordK f a e k ∧ room < (m : Int) + 1 + ((1 + smT K m) + (nmT k).toInt - 1)) : txtF f n room a := by
  obtain ⟨a0, h1, h2, h3⟩ := h
  refine ⟨K, V, m, a0, h1, Or.inl ⟨h0, a, e, ⟨rn_here h2 ha h3 hnb, hle⟩, ?_⟩⟩
  rcases hb with hb | ⟨k, hb, hc⟩
  · exact Or.inl ⟨rfl, hb⟩
  · exact Or.inr ⟨k, hb, Or.inl ⟨rfl, hc⟩⟩
theorem scF_more {f : Nat → Int32} {n : Nat} {room : Int} {K V : Nat → Int32} {m a : Nat} (h : scJ1 f n room K V m a) (ha : a < n) (hnb : ¬ isBl f a) (h0 : smT K m = -1) : txtF f n room a := by
  obtain ⟨a0, h1, h2, h3⟩ := h
  exact ⟨K, V, m, a0, h1, Or.inr ⟨h0, rn_here h2 (by omega) h3 (fun _ => hnb), ha⟩⟩
theorem scF_num {f : Nat → Int32} {n : Nat} {room : Int} {K V : Nat → Int32} {m a : Nat} (h : scJ2 f n room K V m a) (ha : a ≤ n) (hnb : a < n → ¬ isBl f a) (hv : ∀ m' : Nat, m = m' + 1 → ∀ (e : Nat) (v : Int32), ¬ numK f n a (K m').toNatClampNeg e v) : txtF f n room a := by
  obtain ⟨m', a0, p, e', h1, h2, h3, h4, h5, h6, h7, h8, h9, h10⟩ := h
  exact ⟨K, V, m', a0, h2, Or.inl ⟨h3, p, e', h4, Or.inr ⟨_, h6, Or.inr ⟨h7, h8, rn_here h9 ha h10 hnb, hv m' h1⟩⟩⟩⟩
theorem wordK_end {f : Nat → Int32} {a k : Nat} : ¬ wordK f a a k := fun h => by
  have h1 := ks_long ⟨k, h.1⟩
  have h2 := h.2.1
  have h1 : 3 ≤ ksL.getD k 0 ∧ ksL.getD k 0 ≤ 7 := h1
  omega
theorem scF_end {f : Nat → Int32} {n : Nat} {room : Int} {K V : Nat → Int32} {m : Nat} (h : scJ1 f n room K V m n) (h0 : 0 ≤ smT K m) : txtF f n room n := scF_word h (Nat.le_refl n) (fun h => absurd h (by omega)) ⟨⟨Nat.le_refl n, Nat.le_refl n⟩, fun i x y => absurd y (by omega), fun h => absurd h (by omega)⟩ h0 (Or.inl (fun k => wordK_end))
theorem numK_end {f : Nat → Int32} {n k e : Nat} {v : Int32} : ¬ numK f n n k e v := fun h => by
  have h1 := h.1.1
  have h2 := h.2.1
  have h3 : n ≤ sgS f n := by unfold sgS; split <;> omega
  omega
theorem scF_endN {f : Nat → Int32} {n : Nat} {room : Int} {K V : Nat → Int32} {m : Nat} (h : scJ2 f n room K V m n) : txtF f n room n := scF_num h (Nat.le_refl n) (fun h => absurd h (by omega)) (fun _ _ _ _ => numK_end)
theorem scK_end {f : Nat → Int32} {n : Nat} {room : Int} {K V : Nat → Int32} {m : Nat} (h : scJ1 f n room K V m n) (h0 : smT K m = -1) : txtK f n room K V m := by
  obtain ⟨a0, h1, h2, h3⟩ := h
  exact ⟨a0, h1, h0, rn_here h2 (Nat.le_refl n) h3 (fun h => absurd h (by omega))⟩
/-- what the class's numberEnd finds -/
def numE (f : Nat → Int32) (n a e : Nat) (u : Int32) : Prop := rnP (isDi f) n (sgS f a) e ∧ ((sgS f a = e ∧ u.toInt = 1000) ∨ (sgS f a < e ∧ ((1000 ≤ dvl f (sgS f a) (e - sgS f a) ∧ u.toInt = 1000) ∨ (dvl f (sgS f a) (e - sgS f a) < 1000 ∧ u.toInt = if (f a).toInt = 45 then - dvl f (sgS f a) (e - sgS f a) else dvl f (sgS f a) (e - sgS f a)))))
theorem ls_in : ∀ k : Nat, -99 ≤ (lsT k).toInt ∧ (lsT k).toInt ≤ 0 ∧ 0 ≤ (msT k).toInt ∧ (msT k).toInt ≤ 99 := by
  intro k
  rcases Nat.lt_or_ge k 13 with h | h
  · have key : ∀ j : Fin 13, -99 ≤ (lsT j.val).toInt ∧ (lsT j.val).toInt ≤ 0 ∧ 0 ≤ (msT j.val).toInt ∧ (msT j.val).toInt ≤ 99 := by decide
    exact key ⟨k, h⟩
  · have e1 : lsT k = 0 := by
      unfold lsT
      rw [List.getD, show ([0, 0, 0, -9, 0, 0, 0, 0, 0, 0, 0, 0, -99] : List Int32)[k]? = none from List.getElem?_eq_none (by simpa using h)]
      rfl
    have e2 : msT k = 0 := by
      unfold msT
      rw [List.getD, show ([0, 0, 0, 9, 0, 0, 0, 0, 6, 0, 0, 0, 99] : List Int32)[k]? = none from List.getElem?_eq_none (by simpa using h)]
      rfl
    rw [e1, e2]
    decide
theorem numE_yes {f : Nat → Int32} {n a e k : Nat} {u : Int32} (h : numE f n a e u) (hu : (lsT k).toInt ≤ u.toInt ∧ u.toInt ≤ (msT k).toInt) : numK f n a k e u := by
  obtain ⟨h1, h2⟩ := h
  have hl := ls_in k
  rcases h2 with ⟨_, h3⟩ | ⟨h3, ⟨_, h4⟩ | ⟨h4, h5⟩⟩
  · omega
  · omega
  · refine ⟨h1, h3, ?_, h5, hu⟩
    by_cases c : (f a).toInt = 45
    · rw [if_pos c] at h5; omega
    · rw [if_neg c] at h5; omega
theorem numE_no {f : Nat → Int32} {n a e k : Nat} {u : Int32} (h : numE f n a e u) (hu : ¬ ((lsT k).toInt ≤ u.toInt ∧ u.toInt ≤ (msT k).toInt)) : ∀ (e' : Nat) (v : Int32), ¬ numK f n a k e' v := by
  intro e' v g
  obtain ⟨h1, h2⟩ := h
  obtain ⟨g1, g2, g3, g4, g5⟩ := g
  have e1 := rnP_uniq h1 g1
  subst e1
  rcases h2 with ⟨h3, _⟩ | ⟨h3, ⟨h4, _⟩ | ⟨h4, h5⟩⟩
  · omega
  · omega
  · rw [← g4] at h5
    exact hu (by rw [h5]; exact g5)
/-- one more digit, as the class counts -/
theorem dvl_min {f : Nat → Int32} {s : Nat} {i i' b b' z : Int32} {s' : Int32} (hs : s = s'.toNatClampNeg) (h0 : 0 ≤ s'.toInt) (hsi : s'.toInt ≤ i.toInt) (hi : i'.toInt = i.toInt + 1) (hd : ∀ j : Nat, s ≤ j → j < i.toNatClampNeg → isDi f j) (hb : b.toInt = min (dvl f s (i.toNatClampNeg - s)) 1000) (hz : z = f i.toNatClampNeg) (hzd : 48 ≤ z.toInt ∧ z.toInt ≤ 57) (hb' : b'.toInt = min (b.toInt * 10 + z.toInt - 48) 1000) : b'.toInt = min (dvl f s (i'.toNatClampNeg - s)) 1000 := by
  have t := tn (x := i) (by omega)
  have t2 := tnS (by omega) hi
  have t3 := tn h0
  have e : i'.toNatClampNeg - s = (i.toNatClampNeg - s) + 1 := by omega
  have p := dvl_pos (f := f) (s := s) (i.toNatClampNeg - s) (fun j a b => hd j a (by omega))
  rw [e]
  show b'.toInt = min (10 * dvl f s (i.toNatClampNeg - s) + ((f (s + (i.toNatClampNeg - s))).toInt - 48)) 1000
  rw [show s + (i.toNatClampNeg - s) = i.toNatClampNeg by omega, ← hz]
  omega
theorem fb_negI {x : Int32} (h : x.toInt ≠ -2147483648) : (-x).toInt = -x.toInt := by
  have := fb_rng x
  rw [Int32.toInt_neg, fb_bmod (by omega) (by omega)]
theorem min_1000 {z x : Int32} (h : z = if (1000 : Int32) < x then 1000 else x) : z.toInt = min x.toInt 1000 := by
  have e : (1000 : Int32).toInt = 1000 := by decide
  rw [h]
  split
  · rename_i c
    rw [fa_lt, e] at c
    rw [e]
    omega
  · rename_i c
    rw [fa_lt, e] at c
    omega
theorem numE_of {f : Nat → Int32} {n a s e : Nat} {u b : Int32} (hsg : sgS f a = s) (hr : rnP (isDi f) n s e) (hb : b.toInt = min (dvl f s (e - s)) 1000) (hu : (s = e ∧ u.toInt = 1000) ∨ (s < e ∧ (((f a).toInt = 45 ∧ b.toInt ≠ 1000 ∧ u.toInt = -b.toInt) ∨ (b.toInt = 1000 ∧ u.toInt = 1000) ∨ (¬ (f a).toInt = 45 ∧ u.toInt = b.toInt)))) : numE f n a e u := by
  unfold numE
  rw [hsg]
  refine ⟨hr, ?_⟩
  rcases hu with hu | ⟨hs, hu⟩
  · exact Or.inl hu
  · refine Or.inr ⟨hs, ?_⟩
    by_cases c : 1000 ≤ dvl f s (e - s)
    · refine Or.inl ⟨c, ?_⟩
      omega
    · refine Or.inr ⟨by omega, ?_⟩
      by_cases c2 : (f a).toInt = 45
      · rw [if_pos c2]; omega
      · rw [if_neg c2]; omega
/-- where the class stands while it reads -/
def scJ (na : Int32) (f : Nat → Int32) (n : Nat) (room : Int) (K V : Nat → Int32) (m a : Nat) : Prop := (na.toInt = 0 ∧ scJ1 f n room K V m a) ∨ (¬ na.toInt = 0 ∧ scJ2 f n room K V m a)
theorem scJ.bl {na : Int32} {f : Nat → Int32} {n : Nat} {room : Int} {K V : Nat → Int32} {m : Nat} {a a' z : Int32} (h : scJ na f n room K V m a.toNatClampNeg) (h0 : 0 ≤ a.toInt) (ha : a'.toInt = a.toInt + 1) (hz : z = f a.toNatClampNeg) (hb : z.toInt = 32) : scJ na f n room K V m a'.toNatClampNeg := by
  have hb2 : isBl f a.toNatClampNeg := by unfold isBl; rw [← hz]; exact hb
  rw [tnS h0 ha]
  rcases h with ⟨h1, h2⟩ | ⟨h1, h2⟩
  · exact Or.inl ⟨h1, scJ1_bl h2 hb2⟩
  · exact Or.inr ⟨h1, scJ2_bl h2 hb2⟩
theorem scJ.end {na : Int32} {f : Nat → Int32} {n : Nat} {room : Int} {K V : Nat → Int32} {m a : Nat} (h : scJ na f n room K V m a) (ha : a = n) (h0 : na.toInt = 0 → 0 ≤ smT K m) : txtF f n room n := by
  subst ha
  rcases h with ⟨h1, h2⟩ | ⟨h1, h2⟩
  · exact scF_end h2 (h0 h1)
  · exact scF_endN h2
theorem scJ.one {na : Int32} {f : Nat → Int32} {n : Nat} {room : Int} {K V : Nat → Int32} {m a : Nat} (h : scJ na f n room K V m a) (h0 : na.toInt = 0) : scJ1 f n room K V m a := by
  rcases h with ⟨_, h2⟩ | ⟨h1, _⟩
  · exact h2
  · exact absurd h0 h1
theorem scJ.two {na : Int32} {f : Nat → Int32} {n : Nat} {room : Int} {K V : Nat → Int32} {m a : Nat} (h : scJ na f n room K V m a) (h0 : ¬ na.toInt = 0) : scJ2 f n room K V m a := by
  rcases h with ⟨h1, _⟩ | ⟨_, h2⟩
  · exact absurd h1 h0
  · exact h2
theorem scJ2.pos {f : Nat → Int32} {n : Nat} {room : Int} {K V : Nat → Int32} {m a : Nat} (h : scJ2 f n room K V m a) : 1 ≤ m := by
  obtain ⟨m', _, _, _, h1, _⟩ := h
  omega
theorem nb_of {f : Nat → Int32} {a : Nat} {z : Int32} (hz : z = f a) (hb : ¬ z.toInt = 32) : ¬ isBl f a := by
  unfold isBl
  rw [← hz]
  exact hb
/-- the class's clause of a word, behind those that it names -/
theorem bld_push {K V : Nat → Int32} {nx cn dn : Nat} {B : clsA} {n0 u0 r kz vz c d : Int32} {f1 f2 f3 f4 u1 u2 u3 u4 : Nat → Int32} (R : rlC n0 f1 f2 f3 f4 B) (hk : kz = K nx) (hv : vz = V nx) (hc : c = nI cn) (hd : d = nI dn) (hr : r = n0) (hu : u0.toInt = n0.toInt + 1) (hw : u1 = upd f1 n0.toNatClampNeg kz ∧ u2 = upd f2 n0.toNatClampNeg vz ∧ u3 = upd f3 n0.toNatClampNeg (if 1 ≤ (nmT kz.toNatClampNeg).toInt then c else -1) ∧ u4 = upd f4 n0.toNatClampNeg (if (nmT kz.toNatClampNeg).toInt = 2 then d else -1)) : r = nI B.1 ∧ rlC u0 u1 u2 u3 u4 (clsP B (K nx) (V nx) (nI cn) (nI dn)) := by
  obtain ⟨w1, w2, w3, w4⟩ := hw
  refine ⟨?_, ?_⟩
  · rw [hr, ← rlC_clamp R, nI_back (by have := R.1; omega)]
  · rw [← hk, ← hv, ← hc, ← hd, w1, w2, w3, w4]
    exact rlC_push R hu
/-- text(), in the class -/
def textC (fb : Nat → Int32) (n n0 r u0 : Int32) (f1 f2 f3 f4 u1 u2 u3 u4 : Nat → Int32) : Prop := (∃ q : Nat, txtF fb n.toNatClampNeg (24 - n0.toInt) q ∧ r.toInt = -100 - q ∧ (u0 = n0 ∧ u1 = f1 ∧ u2 = f2 ∧ u3 = f3 ∧ u4 = f4)) ∨ (∃ (K V : Nat → Int32) (m : Nat), txtK fb n.toNatClampNeg (24 - n0.toInt) K V m ∧ ∀ A : clsA, rlC n0 f1 f2 f3 f4 A → ∃ (nb rb : Nat) (B : clsA), bldR K V 0 A nb rb B ∧ nb ≤ m ∧ r = nI rb ∧ rlC u0 u1 u2 u3 u4 B)
/-- in the reference -/
def textR (fb : Nat → Int32) (n n0 r u0 : Int32) (f1 f2 f3 f4 u1 u2 u3 u4 : Nat → Int32) : Prop := (∃ q : Nat, txtF fb n.toNatClampNeg (24 - n0.toInt) q ∧ r.toInt = -100 - q ∧ u0 = n0 ∧ ∀ j : Nat, (j : Int) < n0.toInt → u1 j = f1 j ∧ u2 j = f2 j ∧ u3 j = f3 j ∧ u4 j = f4 j) ∨ (∃ (K V : Nat → Int32) (m nb rb : Nat), txtK fb n.toNatClampNeg (24 - n0.toInt) K V m ∧ bldR K V 0 (rfA n0 f1 f2 f3 f4) nb rb (rfA u0 u1 u2 u3 u4) ∧ nb ≤ m ∧ r = nI rb)
theorem text_rel {fb : Nat → Int32} {n n0 n1 r r' u0 w0 : Int32} {f1 f2 f3 f4 u1 u2 u3 u4 g1 g2 g3 g4 w1 w2 w3 w4 : Nat → Int32} (R : rlC n0 f1 f2 f3 f4 (rfA n1 g1 g2 g3 g4)) (hn : 0 ≤ n1.toInt) (C : textC fb n n0 r u0 f1 f2 f3 f4 u1 u2 u3 u4) (M : textR fb n n1 r' w0 g1 g2 g3 g4 w1 w2 w3 w4) : r = r' ∧ rlC u0 u1 u2 u3 u4 (rfA w0 w1 w2 w3 w4) := by
  have e := rlC_size R hn
  subst e
  rcases C with ⟨q, c1, c2, c3⟩ | ⟨K, V, m, c1, c2⟩
  · rcases M with ⟨q', m1, m2, m3, m4⟩ | ⟨K', V', m', nb, rb, m1, _⟩
    · have e2 := txtF_uniq c1 m1
      subst e2
      obtain ⟨rfl, rfl, rfl, rfl, rfl⟩ := c3
      subst m3
      refine ⟨Int32.toInt_inj.1 (by omega), R.1, fun j hj => ?_⟩
      have t := tn hn
      have hj : j < w0.toNatClampNeg := hj
      obtain ⟨a1, a2, a3, a4⟩ := m4 j (by omega)
      have h := R.2 j hj
      show u1 j = w1 j ∧ u2 j = w2 j ∧ u3 j = (if 1 ≤ (nmT (w1 j).toNatClampNeg).toInt then w3 j else -1) ∧ u4 j = (if (nmT (w1 j).toNatClampNeg).toInt = 2 then w4 j else -1)
      rw [a1, a2, a3, a4]
      exact h
    · exact (txtK_F m1 c1).elim
  · rcases M with ⟨q', m1, _⟩ | ⟨K', V', m', nb, rb, m1, m2, m3, m4⟩
    · exact (txtK_F c1 m1).elim
    · obtain ⟨e2, e3⟩ := txtK_uniq c1 m1
      obtain ⟨nb', rb', B, c3, c4, c5, c6⟩ := c2 _ R
      have c3' := bldR_local c3 (K' := K') (V' := V') (fun j _ hj => e3 j (by omega))
      obtain ⟨_, e5, e6⟩ := bldR_uniq c3' m2
      rw [e6] at c6
      exact ⟨by rw [c5, m4, e5], c6⟩
theorem tneq {x y : Int32} (h : 0 ≤ x.toInt) (e : y.toInt = x.toInt) : y.toNatClampNeg = x.toNatClampNeg := by
  have h1 := tn h
  have h2 := tn (x := y) (by omega)
  omega
