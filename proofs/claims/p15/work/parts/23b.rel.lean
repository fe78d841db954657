theorem okC.up {x k : Int32} {fk fc fd fe : Nat → Int32} (h : okC fk fc fd fe) (hk : 0 ≤ k.toInt ∧ k.toInt ≤ 12) : okW x.toNatClampNeg (upd fk x.toNatClampNeg k) fc fd fe := by
  intro j hj
  have h9 := h j hj
  by_cases hjx : j = x.toNatClampNeg
  · refine ⟨?_, fun a => absurd hjx a, fun a => absurd hjx a, h9.2.2.2⟩
    simp only [upd, if_pos hjx]; exact hk
  · simp only [upd, if_neg hjx]
    exact ⟨h9.1, fun _ => h9.2.1, fun _ => h9.2.2.1, h9.2.2.2⟩
theorem upd_at {f : Nat → Int32} {k : Nat} {v : Int32} : upd f k v k = v := by simp only [upd, if_pos]
def lsT (k : Nat) : Int32 := ([0, 0, 0, -9, 0, 0, 0, 0, 0, 0, 0, 0, -99] : List Int32).getD k 0
def msT (k : Nat) : Int32 := ([0, 0, 0, 9, 0, 0, 0, 0, 6, 0, 0, 0, 99] : List Int32).getD k 0
/-- how many clauses are still awaited behind the first k words, less 1 -/
def smT (f : Nat → Int32) : Nat → Int
  | 0 => 0
  | k + 1 => smT f k + (nmT (f k).toNatClampNeg).toInt - 1
theorem tn1 {x y : Int32} (h : 0 ≤ x.toInt) (e : y.toInt = x.toInt + 1) : y.toNatClampNeg = x.toNatClampNeg + 1 := by
  have h1 := tn h
  have h2 := tn (x := y) (by omega)
  omega
/-! what a text is, whoever reads it -/
/-- from a on as long as P holds, no further than n -/
def rnP (P : Nat → Prop) (n a b : Nat) : Prop := (a ≤ b ∧ b ≤ n) ∧ (∀ i : Nat, a ≤ i → i < b → P i) ∧ (b < n → ¬ P b)
theorem rnP_uniq {P : Nat → Prop} {n a b c : Nat} (h : rnP P n a b) (g : rnP P n a c) : b = c := by
  obtain ⟨h1, h3, h4⟩ := h
  obtain ⟨g1, g3, g4⟩ := g
  rcases Nat.lt_trichotomy b c with e | e | e
  · exact absurd (g3 b h1.1 e) (h4 (by omega))
  · exact e
  · exact absurd (h3 c g1.1 e) (g4 (by omega))
theorem rnP_pre {P : Nat → Prop} {n a b c : Nat} (hab : a ≤ b) (h : ∀ i : Nat, a ≤ i → i < b → P i) (g : rnP P n b c) : rnP P n a c := by
  obtain ⟨g1, g3, g4⟩ := g
  refine ⟨⟨by omega, g1.2⟩, fun i h1 h2 => ?_, g4⟩
  rcases Nat.lt_or_ge i b with e | e
  · exact h i h1 e
  · exact g3 i e h2
theorem rn_step {P : Nat → Prop} {a : Nat} {i i' : Int32} (h0 : 0 ≤ i.toInt) (hi : i'.toInt = i.toInt + 1) (h : ∀ j : Nat, a ≤ j → j < i.toNatClampNeg → P j) (hp : P i.toNatClampNeg) : ∀ j : Nat, a ≤ j → j < i'.toNatClampNeg → P j := by
  intro j h1 h2
  have e := tn1 h0 hi
  by_cases hj : j = i.toNatClampNeg
  · rw [hj]; exact hp
  · exact h j h1 (by omega)
theorem rn_end {P : Nat → Prop} {a i n : Int32} (ha : 0 ≤ a.toInt) (hai : a.toInt ≤ i.toInt) (hin : i.toInt ≤ n.toInt) (h : ∀ j : Nat, a.toNatClampNeg ≤ j → j < i.toNatClampNeg → P j) (he : i.toInt < n.toInt → ¬ P i.toNatClampNeg) : rnP P n.toNatClampNeg a.toNatClampNeg i.toNatClampNeg := by
  have h1 := tn ha
  have h2 := tn (x := i) (by omega)
  have h3 := tn (x := n) (by omega)
  exact ⟨by omega, h, fun e => he (by omega)⟩
def isBl (f : Nat → Int32) (i : Nat) : Prop := (f i).toInt = 32
def isLe (f : Nat → Int32) (i : Nat) : Prop := 97 ≤ (f i).toInt ∧ (f i).toInt ≤ 122
def isDi (f : Nat → Int32) (i : Nat) : Prop := 48 ≤ (f i).toInt ∧ (f i).toInt ≤ 57
/-- from a up to b stands the word of kind k -/
def wordK (f : Nat → Int32) (a b k : Nat) : Prop := k < 13 ∧ b = a + ksL.getD k 0 ∧ ∀ j : Nat, j < ksL.getD k 0 → f (a + j) = (ksB.getD k []).getD j 0
theorem ks_apart : ∀ x y : Fin 13, x.val = y.val ∨ ksL.getD x.val 0 ≠ ksL.getD y.val 0 ∨ ∃ j : Fin 8, j.val < ksL.getD x.val 0 ∧ (ksB.getD x.val []).getD j.val 0 ≠ (ksB.getD y.val []).getD j.val 0 := by decide +kernel
theorem wordK_uniq {f : Nat → Int32} {a b k k' : Nat} (h : wordK f a b k) (g : wordK f a b k') : k = k' := by
  obtain ⟨h1, h2, h3⟩ := h
  obtain ⟨g1, g2, g3⟩ := g
  rcases ks_apart ⟨k, h1⟩ ⟨k', g1⟩ with e | e | ⟨j, e1, e2⟩
  · exact e
  · exact absurd (show ksL.getD k 0 = ksL.getD k' 0 by omega) e
  · have e1 : j.val < ksL.getD k 0 := e1
    exact absurd ((h3 j.val e1).symm.trans (g3 j.val (by omega))) e2
theorem ks_long : ∀ x : Fin 13, 3 ≤ ksL.getD x.val 0 ∧ ksL.getD x.val 0 ≤ 7 := by decide
/-- what digits tell -/
def dvl (f : Nat → Int32) (s : Nat) : Nat → Int
  | 0 => 0
  | k + 1 => 10 * dvl f s k + ((f (s + k)).toInt - 48)
theorem dvl_pos {f : Nat → Int32} {s : Nat} : ∀ k : Nat, (∀ j : Nat, s ≤ j → j < s + k → isDi f j) → 0 ≤ dvl f s k
  | 0, _ => Int.le_refl 0
  | k + 1, h => by
    have h1 := dvl_pos k (fun j a b => h j a (by omega))
    have h2 := h (s + k) (by omega) (by omega)
    unfold isDi at h2
    show 0 ≤ 10 * dvl f s k + ((f (s + k)).toInt - 48)
    omega
/-- where the digits begin -/
def sgS (f : Nat → Int32) (a : Nat) : Nat := if (f a).toInt = 45 then a + 1 else a
/-- at a stands a number that kind k takes, up to e -/
def numK (f : Nat → Int32) (n a k e : Nat) (v : Int32) : Prop := rnP (isDi f) n (sgS f a) e ∧ sgS f a < e ∧ dvl f (sgS f a) (e - sgS f a) ≤ 99 ∧ v.toInt = (if (f a).toInt = 45 then - dvl f (sgS f a) (e - sgS f a) else dvl f (sgS f a) (e - sgS f a)) ∧ (lsT k).toInt ≤ v.toInt ∧ v.toInt ≤ (msT k).toInt
theorem numK_uniq {f : Nat → Int32} {n a k e e' : Nat} {v v' : Int32} (h : numK f n a k e v) (g : numK f n a k e' v') : e = e' ∧ v = v' := by
  obtain ⟨h1, h2, h3, h4, h5⟩ := h
  obtain ⟨g1, g2, g3, g4, g5⟩ := g
  have e1 := rnP_uniq h1 g1
  subst e1
  refine ⟨rfl, ?_⟩
  rw [fa_eq, h4, g4]
/-- one word with what belongs to it, read from a on, where rd have been read and op are awaited -/
def stpK (f : Nat → Int32) (n : Nat) (room : Int) (a rd : Nat) (op : Int) (k v : Int32) (a' : Nat) : Prop := ∃ p e : Nat, (rnP (isBl f) n a p ∧ rnP (isLe f) n p e) ∧ (0 ≤ k.toInt ∧ k.toInt ≤ 12) ∧ wordK f p e k.toNatClampNeg ∧ (rd : Int) + 1 + (op + (nmT k.toNatClampNeg).toInt - 1) ≤ room ∧ ((lsT k.toNatClampNeg = msT k.toNatClampNeg ∧ v = 0 ∧ a' = e) ∨ (lsT k.toNatClampNeg ≠ msT k.toNatClampNeg ∧ ∃ p2 : Nat, rnP (isBl f) n e p2 ∧ numK f n p2 k.toNatClampNeg a' v))
/-- what can't stand there is at q -/
def stpF (f : Nat → Int32) (n : Nat) (room : Int) (a rd : Nat) (op : Int) (q : Nat) : Prop := ∃ p e : Nat, (rnP (isBl f) n a p ∧ rnP (isLe f) n p e) ∧ ((q = p ∧ ∀ k : Nat, ¬ wordK f p e k) ∨ ∃ k : Nat, wordK f p e k ∧ ((q = p ∧ room < (rd : Int) + 1 + (op + (nmT k).toInt - 1)) ∨ ((rd : Int) + 1 + (op + (nmT k).toInt - 1) ≤ room ∧ lsT k ≠ msT k ∧ rnP (isBl f) n e q ∧ ∀ (e2 : Nat) (v : Int32), ¬ numK f n q k e2 v)))
theorem stpK_uniq {f : Nat → Int32} {n : Nat} {room : Int} {a rd : Nat} {op : Int} {k v k' v' : Int32} {b b' : Nat} (h : stpK f n room a rd op k v b) (g : stpK f n room a rd op k' v' b') : k = k' ∧ v = v' ∧ b = b' := by
  obtain ⟨p, e, ⟨h1, h2⟩, h3, h4, h5, h6⟩ := h
  obtain ⟨p', e', ⟨g1, g2⟩, g3, g4, g5, g6⟩ := g
  have e1 := rnP_uniq h1 g1
  subst e1
  have e2 := rnP_uniq h2 g2
  subst e2
  have e3 := wordK_uniq h4 g4
  have e4 : k = k' := by
    have a1 := tn h3.1
    have a2 := tn g3.1
    rw [fa_eq]
    omega
  subst e4
  refine ⟨rfl, ?_⟩
  rcases h6 with ⟨h7, h8, h9⟩ | ⟨h7, q, h8, h9⟩
  · rcases g6 with ⟨g7, g8, g9⟩ | ⟨g7, q', g8, g9⟩
    · exact ⟨h8.trans g8.symm, h9.trans g9.symm⟩
    · exact absurd h7 g7
  · rcases g6 with ⟨g7, g8, g9⟩ | ⟨g7, q', g8, g9⟩
    · exact absurd g7 h7
    · have e5 := rnP_uniq h8 g8
      subst e5
      have e6 := numK_uniq h9 g9
      exact ⟨e6.2, e6.1⟩
theorem stpK_F {f : Nat → Int32} {n : Nat} {room : Int} {a rd : Nat} {op : Int} {k v : Int32} {b q : Nat} (h : stpK f n room a rd op k v b) (g : stpF f n room a rd op q) : False := by
  obtain ⟨p, e, ⟨h1, h2⟩, h3, h4, h5, h6⟩ := h
  obtain ⟨p', e', ⟨g1, g2⟩, g3⟩ := g
  have e1 := rnP_uniq h1 g1
  subst e1
  have e2 := rnP_uniq h2 g2
  subst e2
  rcases g3 with ⟨_, g4⟩ | ⟨k', g4, g5⟩
  · exact g4 _ h4
  · have e3 := wordK_uniq h4 g4
    subst e3
    rcases g5 with ⟨_, g6⟩ | ⟨g6, g7, g8, g9⟩
    · omega
    · rcases h6 with ⟨h7, _⟩ | ⟨h7, q', h8, h9⟩
      · exact g7 h7
      · have e4 := rnP_uniq h8 g8
        subst e4
        exact g9 _ _ h9
theorem stpF_uniq {f : Nat → Int32} {n : Nat} {room : Int} {a rd : Nat} {op : Int} {q q' : Nat} (h : stpF f n room a rd op q) (g : stpF f n room a rd op q') : q = q' := by
  obtain ⟨p, e, ⟨h1, h2⟩, h3⟩ := h
  obtain ⟨p', e', ⟨g1, g2⟩, g3⟩ := g
  have e1 := rnP_uniq h1 g1
  subst e1
  have e2 := rnP_uniq h2 g2
  subst e2
  rcases h3 with ⟨h4, h5⟩ | ⟨k, h4, h5⟩
  · rcases g3 with ⟨g4, g5⟩ | ⟨k', g4, g5⟩
    · exact h4.trans g4.symm
    · exact absurd g4 (h5 _)
  · rcases g3 with ⟨g4, g5⟩ | ⟨k', g4, g5⟩
    · exact absurd h4 (g5 _)
    · have e3 := wordK_uniq h4 g4
      subst e3
      rcases h5 with ⟨h6, h7⟩ | ⟨h6, h7, h8, h9⟩
      · rcases g5 with ⟨g6, g7⟩ | ⟨g6, g7, g8, g9⟩
        · exact h6.trans g6.symm
        · exfalso; omega
      · rcases g5 with ⟨g6, g7⟩ | ⟨g6, g7, g8, g9⟩
        · exfalso; omega
        · exact rnP_uniq h8 g8
/-- m words have been read, K and V, and a is where the last one ended -/
def pthT (f : Nat → Int32) (n : Nat) (room : Int) (K V : Nat → Int32) : Nat → Nat → Prop
  | 0, a => a = 0
  | m + 1, a => ∃ a0 : Nat, pthT f n room K V m a0 ∧ 0 ≤ smT K m ∧ stpK f n room a0 m (1 + smT K m) (K m) (V m) a
theorem smT_ext {K K' : Nat → Int32} : ∀ m : Nat, (∀ j : Nat, j < m → K j = K' j) → smT K m = smT K' m
  | 0, _ => rfl
  | m + 1, h => by
    show smT K m + (nmT (K m).toNatClampNeg).toInt - 1 = smT K' m + (nmT (K' m).toNatClampNeg).toInt - 1
    rw [smT_ext m (fun j hj => h j (by omega)), h m (by omega)]
theorem pthT_ext {f : Nat → Int32} {n : Nat} {room : Int} {K V K' V' : Nat → Int32} : ∀ (m a : Nat), (∀ j : Nat, j < m → K j = K' j ∧ V j = V' j) → pthT f n room K V m a → pthT f n room K' V' m a
  | 0, _, _, h => h
  | m + 1, a, e, h => by
    obtain ⟨a0, h1, h2, h3⟩ := h
    have e1 := smT_ext m (fun j hj => (e j (by omega)).1)
    have e2 := e m (by omega)
    refine ⟨a0, pthT_ext m a0 (fun j hj => e j (by omega)) h1, by rw [← e1]; exact h2, ?_⟩
    rw [← e1, ← e2.1, ← e2.2]
    exact h3
theorem pthT_uniq {f : Nat → Int32} {n : Nat} {room : Int} {K V K' V' : Nat → Int32} : ∀ (m a a' : Nat), pthT f n room K V m a → pthT f n room K' V' m a' → a = a' ∧ ∀ j : Nat, j < m → K j = K' j ∧ V j = V' j
  | 0, a, a', h, g => ⟨Eq.trans (show a = 0 from h) (show a' = 0 from g).symm, fun j hj => absurd hj (Nat.not_lt_zero j)⟩
  | m + 1, a, a', h, g => by
    obtain ⟨a0, h1, h2, h3⟩ := h
    obtain ⟨b0, g1, g2, g3⟩ := g
    have ih := pthT_uniq m a0 b0 h1 g1
    have e1 := smT_ext m (fun j hj => (ih.2 j hj).1)
    rw [← e1, ← ih.1] at g3
    have e2 := stpK_uniq h3 g3
    refine ⟨e2.2.2, fun j hj => ?_⟩
    by_cases hm : j = m
    · subst hm; exact ⟨e2.1, e2.2.1⟩
    · exact ih.2 j (by omega)
theorem pthT_cut {f : Nat → Int32} {n : Nat} {room : Int} {K V : Nat → Int32} : ∀ (d m a : Nat), pthT f n room K V (m + d) a → ∃ b : Nat, pthT f n room K V m b
  | 0, _, a, h => ⟨a, h⟩
  | d + 1, m, a, h => by
    obtain ⟨a0, h1, _⟩ := (show pthT f n room K V ((m + d) + 1) a from h)
    exact pthT_cut d m a0 h1
theorem pthT_more {f : Nat → Int32} {n : Nat} {room : Int} {K V K' V' : Nat → Int32} {m m' a a' : Nat} (h : pthT f n room K V m a) (g : pthT f n room K' V' m' a') (hm : m < m') : 0 ≤ smT K m ∧ ∃ (k v : Int32) (b : Nat), stpK f n room a m (1 + smT K m) k v b := by
  obtain ⟨b, hb⟩ := pthT_cut (m' - (m + 1)) (m + 1) a' (by rw [show m + 1 + (m' - (m + 1)) = m' by omega]; exact g)
  obtain ⟨a0, h1, h2, h3⟩ := hb
  have e := pthT_uniq m a a0 h h1
  have e1 := smT_ext m (fun j hj => (e.2 j hj).1)
  rw [e1]
  exact ⟨h2, K' m, V' m, b, by rw [e.1]; exact h3⟩
/-- the text tells one clause, by m words -/
def txtK (f : Nat → Int32) (n : Nat) (room : Int) (K V : Nat → Int32) (m : Nat) : Prop := ∃ a : Nat, pthT f n room K V m a ∧ smT K m = -1 ∧ rnP (isBl f) n a n
/-- it has a fault at q -/
def txtF (f : Nat → Int32) (n : Nat) (room : Int) (q : Nat) : Prop := ∃ (K V : Nat → Int32) (m a : Nat), pthT f n room K V m a ∧ ((0 ≤ smT K m ∧ stpF f n room a m (1 + smT K m) q) ∨ (smT K m = -1 ∧ rnP (isBl f) n a q ∧ q < n))
theorem txtK_uniq {f : Nat → Int32} {n : Nat} {room : Int} {K V K' V' : Nat → Int32} {m m' : Nat} (h : txtK f n room K V m) (g : txtK f n room K' V' m') : m = m' ∧ ∀ j : Nat, j < m → K j = K' j ∧ V j = V' j := by
  obtain ⟨a, h1, h2, h3⟩ := h
  obtain ⟨b, g1, g2, g3⟩ := g
  rcases Nat.lt_trichotomy m m' with e | e | e
  · have := (pthT_more h1 g1 e).1; omega
  · subst e; exact ⟨rfl, (pthT_uniq m a b h1 g1).2⟩
  · have := (pthT_more g1 h1 e).1; omega
theorem txtK_F {f : Nat → Int32} {n : Nat} {room : Int} {K V : Nat → Int32} {m q : Nat} (h : txtK f n room K V m) (g : txtF f n room q) : False := by
  obtain ⟨a, h1, h2, h3⟩ := h
  obtain ⟨K', V', m', b, g1, g2⟩ := g
  rcases Nat.lt_trichotomy m m' with e | e | e
  · have := (pthT_more h1 g1 e).1; omega
  · subst e
    have e2 := pthT_uniq m a b h1 g1
    have e3 := smT_ext m (fun j hj => (e2.2 j hj).1)
    rcases g2 with ⟨g3, _⟩ | ⟨g3, g4, g5⟩
    · omega
    · rw [← e2.1] at g4
      have := rnP_uniq h3 g4
      omega
  · obtain ⟨k1, k, v, b', k2⟩ := pthT_more g1 h1 e
    rcases g2 with ⟨_, g4⟩ | ⟨g3, _⟩
    · exact stpK_F k2 g4
    · omega
theorem txtF_uniq {f : Nat → Int32} {n : Nat} {room : Int} {q q' : Nat} (h : txtF f n room q) (g : txtF f n room q') : q = q' := by
  obtain ⟨K, V, m, a, h1, h2⟩ := h
  obtain ⟨K', V', m', b, g1, g2⟩ := g
  rcases Nat.lt_trichotomy m m' with e | e | e
  · exfalso
    obtain ⟨k1, k, v, b', k2⟩ := pthT_more h1 g1 e
    rcases h2 with ⟨_, h4⟩ | ⟨h3, _⟩
    · exact stpK_F k2 h4
    · omega
  · subst e
    have e2 := pthT_uniq m a b h1 g1
    have e3 := smT_ext m (fun j hj => (e2.2 j hj).1)
    rw [← e3, ← e2.1] at g2
    rcases h2 with ⟨h3, h4⟩ | ⟨h3, h4, h5⟩
    · rcases g2 with ⟨g3, g4⟩ | ⟨g3, g4, g5⟩
      · exact stpF_uniq h4 g4
      · omega
    · rcases g2 with ⟨g3, g4⟩ | ⟨g3, g4, g5⟩
      · omega
      · exact rnP_uniq h4 g4
  · exfalso
    obtain ⟨k1, k, v, b', k2⟩ := pthT_more g1 h1 e
    rcases g2 with ⟨_, g4⟩ | ⟨g3, _⟩
    · exact stpK_F k2 g4
    · omega
theorem txtF_le {f : Nat → Int32} {n : Nat} {room : Int} {q : Nat} (h : txtF f n room q) : q ≤ n := by
  obtain ⟨K, V, m, a, _, h2⟩ := h
  rcases h2 with ⟨_, p, e, ⟨h3, _⟩, h4⟩ | ⟨_, h3, _⟩
  · rcases h4 with ⟨h5, _⟩ | ⟨k, _, ⟨h5, _⟩ | ⟨_, _, h5, _⟩⟩
    · rw [h5]; exact h3.1.2
    · rw [h5]; exact h3.1.2
    · exact h5.1.2
  · exact h3.1.2
/-! the clauses that words tell -/
/-- clauses by number: how many, their kinds, numbers, and what they name -/
abbrev clsA := Nat × (Nat → Int32) × (Nat → Int32) × (Nat → Int32) × (Nat → Int32)
/-- one more -/
def clsP (A : clsA) (k v c d : Int32) : clsA := (A.1 + 1, upd A.2.1 A.1 k, upd A.2.2.1 A.1 v, upd A.2.2.2.1 A.1 c, upd A.2.2.2.2 A.1 d)
/-- the clause of the word at nx: the next word, its number, all clauses -/
def bldF (K V : Nat → Int32) : Nat → Nat → clsA → Nat × Nat × clsA
  | 0, nx, A => (nx, 0, A)
  | t + 1, nx, A =>
    let R1 := if 1 ≤ (nmT (K nx).toNatClampNeg).toInt then bldF K V t (nx + 1) A else (nx + 1, 0, A)
    let R2 := if (nmT (K nx).toNatClampNeg).toInt = 2 then bldF K V t R1.1 R1.2.2 else (R1.1, 0, R1.2.2)
    (R2.1, R2.2.2.1, clsP R2.2.2 (K nx) (V nx) (nI R1.2.1) (nI R2.2.1))
/-- with turns enough -/
def bldR (K V : Nat → Int32) (nx : Nat) (A : clsA) (nx' r : Nat) (A' : clsA) : Prop := ∃ t0 : Nat, ∀ t : Nat, t0 ≤ t → bldF K V t nx A = (nx', r, A')
theorem bldR_uniq {K V : Nat → Int32} {nx n1 n2 r1 r2 : Nat} {A A1 A2 : clsA} (h : bldR K V nx A n1 r1 A1) (g : bldR K V nx A n2 r2 A2) : n1 = n2 ∧ r1 = r2 ∧ A1 = A2 := by
  obtain ⟨t, h⟩ := h
  obtain ⟨t', g⟩ := g
  have e := (h (max t t') (Nat.le_max_left _ _)).symm.trans (g (max t t') (Nat.le_max_right _ _))
  exact ⟨congrArg Prod.fst e, congrArg (fun x => x.2.1) e, congrArg (fun x => x.2.2) e⟩
theorem bldF_local {K V K' V' : Nat → Int32} : ∀ (t nx : Nat) (A : clsA), nx ≤ (bldF K V t nx A).1 ∧ ((∀ j : Nat, nx ≤ j → j < (bldF K V t nx A).1 → K j = K' j ∧ V j = V' j) → bldF K' V' t nx A = bldF K V t nx A)
  | 0, nx, A => ⟨Nat.le_refl nx, fun _ => rfl⟩
  | t + 1, nx, A => by
    obtain ⟨R1, hR1⟩ : ∃ R1 : Nat × Nat × clsA, R1 = if 1 ≤ (nmT (K nx).toNatClampNeg).toInt then bldF K V t (nx + 1) A else (nx + 1, 0, A) := ⟨_, rfl⟩
    obtain ⟨R2, hR2⟩ : ∃ R2 : Nat × Nat × clsA, R2 = if (nmT (K nx).toNatClampNeg).toInt = 2 then bldF K V t R1.1 R1.2.2 else (R1.1, 0, R1.2.2) := ⟨_, rfl⟩
    have e : bldF K V (t + 1) nx A = (R2.1, R2.2.2.1, clsP R2.2.2 (K nx) (V nx) (nI R1.2.1) (nI R2.2.1)) := by rw [hR2, hR1]; rfl
    have i1 := bldF_local (K := K) (V := V) (K' := K') (V' := V') t (nx + 1) A
    have i2 := bldF_local (K := K) (V := V) (K' := K') (V' := V') t R1.1 R1.2.2
    have l1 : nx + 1 ≤ R1.1 := by
      rw [hR1]
      split
      · exact i1.1
      · exact Nat.le_refl _
    have l2 : R1.1 ≤ R2.1 := by
      rw [hR2]
      split
      · exact i2.1
      · exact Nat.le_refl _
    rw [e]
    refine ⟨by show nx ≤ R2.1; omega, fun h => ?_⟩
    have h : ∀ j : Nat, nx ≤ j → j < R2.1 → K j = K' j ∧ V j = V' j := h
    have h0 := h nx (Nat.le_refl nx) (by omega)
    have f1 : (if 1 ≤ (nmT (K' nx).toNatClampNeg).toInt then bldF K' V' t (nx + 1) A else (nx + 1, 0, A)) = R1 := by
      rw [← h0.1, hR1]
      split
      · rename_i c
        rw [if_pos c] at hR1
        exact i1.2 (fun j a b => h j (by omega) (by rw [← hR1] at b; omega))
      · rfl
    have f2 : (if (nmT (K' nx).toNatClampNeg).toInt = 2 then bldF K' V' t R1.1 R1.2.2 else (R1.1, 0, R1.2.2)) = R2 := by
      rw [← h0.1, hR2]
      split
      · rename_i c
        rw [if_pos c] at hR2
        exact i2.2 (fun j a b => h j (by omega) (by rw [← hR2] at b; omega))
      · rfl
    show (_, _, _) = _
    rw [f1, f2, h0.1, h0.2]
theorem bldR_local {K V K' V' : Nat → Int32} {nx nx' r : Nat} {A A' : clsA} (h : bldR K V nx A nx' r A') (e : ∀ j : Nat, nx ≤ j → j < nx' → K j = K' j ∧ V j = V' j) : bldR K' V' nx A nx' r A' := by
  obtain ⟨t0, h⟩ := h
  refine ⟨t0, fun t ht => ?_⟩
  have h1 := h t ht
  rw [(bldF_local (K := K) (V := V) (K' := K') (V' := V') t nx A).2 (by rw [h1]; exact e)]
  exact h1
/-- a word that names none -/
theorem bldR_0 {K V : Nat → Int32} {nx : Nat} {A : clsA} (hn : ¬ 1 ≤ (nmT (K nx).toNatClampNeg).toInt) : bldR K V nx A (nx + 1) A.1 (clsP A (K nx) (V nx) (nI 0) (nI 0)) := by
  refine ⟨1, fun t ht => ?_⟩
  obtain ⟨t, rfl⟩ : ∃ k : Nat, t = k + 1 := ⟨t - 1, by omega⟩
  show (_, _, _) = _
  rw [if_neg hn, if_neg (show ¬ (nmT (K nx).toNatClampNeg).toInt = 2 by omega)]
theorem bldR_1 {K V : Nat → Int32} {nx n1 c : Nat} {A A1 : clsA} (hn : 1 ≤ (nmT (K nx).toNatClampNeg).toInt) (hn2 : ¬ (nmT (K nx).toNatClampNeg).toInt = 2) (h : bldR K V (nx + 1) A n1 c A1) : bldR K V nx A n1 A1.1 (clsP A1 (K nx) (V nx) (nI c) (nI 0)) := by
  obtain ⟨t0, h⟩ := h
  refine ⟨t0 + 1, fun t ht => ?_⟩
  obtain ⟨t, rfl⟩ : ∃ k : Nat, t = k + 1 := ⟨t - 1, by omega⟩
  show (_, _, _) = _
  rw [if_pos hn, if_neg hn2, h t (by omega)]
theorem bldR_2 {K V : Nat → Int32} {nx n1 n2 c d : Nat} {A A1 A2 : clsA} (hn : (nmT (K nx).toNatClampNeg).toInt = 2) (h : bldR K V (nx + 1) A n1 c A1) (g : bldR K V n1 A1 n2 d A2) : bldR K V nx A n2 A2.1 (clsP A2 (K nx) (V nx) (nI c) (nI d)) := by
  obtain ⟨t0, h⟩ := h
  obtain ⟨t1, g⟩ := g
  refine ⟨max t0 t1 + 1, fun t ht => ?_⟩
  have m1 := Nat.le_max_left t0 t1
  have m2 := Nat.le_max_right t0 t1
  obtain ⟨t, rfl⟩ : ∃ k : Nat, t = k + 1 := ⟨t - 1, by omega⟩
  show (_, _, _) = _
  rw [if_pos (show 1 ≤ (nmT (K nx).toNatClampNeg).toInt by omega), if_pos hn, h t (by omega)]
  show (_, _, _) = _
  rw [g t (by omega)]
/-! the class's clauses against clauses by number -/
/-- fc, fd are -1 where none is named -/
def rlC (n : Int32) (fk fn fc fd : Nat → Int32) (A : clsA) : Prop := n.toInt = A.1 ∧ ∀ j : Nat, j < A.1 → fk j = A.2.1 j ∧ fn j = A.2.2.1 j ∧ fc j = (if 1 ≤ (nmT (A.2.1 j).toNatClampNeg).toInt then A.2.2.2.1 j else -1) ∧ fd j = (if (nmT (A.2.1 j).toNatClampNeg).toInt = 2 then A.2.2.2.2 j else -1)
theorem rlC_clamp {n : Int32} {fk fn fc fd : Nat → Int32} {A : clsA} (h : rlC n fk fn fc fd A) : n.toNatClampNeg = A.1 := by
  have h1 := h.1
  have h2 := tn (x := n) (by omega)
  omega
theorem rlC_push {n n' : Int32} {fk fn fc fd : Nat → Int32} {A : clsA} {k v c d : Int32} (h : rlC n fk fn fc fd A) (hn : n'.toInt = n.toInt + 1) : rlC n' (upd fk n.toNatClampNeg k) (upd fn n.toNatClampNeg v) (upd fc n.toNatClampNeg (if 1 ≤ (nmT k.toNatClampNeg).toInt then c else -1)) (upd fd n.toNatClampNeg (if (nmT k.toNatClampNeg).toInt = 2 then d else -1)) (clsP A k v c d) := by
  have h1 := h.1
  have h2 := rlC_clamp h
  rw [h2]
  refine ⟨by show n'.toInt = ((A.1 + 1 : Nat) : Int); omega, fun j hj => ?_⟩
  have hj : j < A.1 + 1 := hj
  show upd fk A.1 k j = upd A.2.1 A.1 k j ∧ upd fn A.1 v j = upd A.2.2.1 A.1 v j ∧ upd fc A.1 _ j = (if 1 ≤ (nmT (upd A.2.1 A.1 k j).toNatClampNeg).toInt then upd A.2.2.2.1 A.1 c j else -1) ∧ upd fd A.1 _ j = (if (nmT (upd A.2.1 A.1 k j).toNatClampNeg).toInt = 2 then upd A.2.2.2.2 A.1 d j else -1)
  by_cases e : j = A.1
  · simp only [upd, if_pos e]
    exact ⟨trivial, trivial, trivial, trivial⟩
  · simp only [upd, if_neg e]
    exact h.2 j (by omega)
/-- as clsA after a swap at x -/
def clsS (A : clsA) (x : Nat) (c d : Int32) : clsA := (A.1, A.2.1, A.2.2.1, upd A.2.2.2.1 x c, upd A.2.2.2.2 x d)
theorem rlC_swap {n x : Int32} {fk fn fc fd : Nat → Int32} {A : clsA} {c d : Int32} (h : rlC n fk fn fc fd A) (hx : 0 ≤ x.toInt ∧ x.toInt < n.toInt) : rlC n fk fn (upd fc x.toNatClampNeg (if 1 ≤ (nmT (fk x.toNatClampNeg).toNatClampNeg).toInt then c else -1)) (upd fd x.toNatClampNeg (if (nmT (fk x.toNatClampNeg).toNatClampNeg).toInt = 2 then d else -1)) (clsS A x.toNatClampNeg c d) := by
  refine ⟨h.1, fun j hj => ?_⟩
  have hj : j < A.1 := hj
  have h9 := h.2 j hj
  show fk j = A.2.1 j ∧ fn j = A.2.2.1 j ∧ upd fc x.toNatClampNeg _ j = (if 1 ≤ (nmT (A.2.1 j).toNatClampNeg).toInt then upd A.2.2.2.1 x.toNatClampNeg c j else -1) ∧ upd fd x.toNatClampNeg _ j = (if (nmT (A.2.1 j).toNatClampNeg).toInt = 2 then upd A.2.2.2.2 x.toNatClampNeg d j else -1)
  refine ⟨h9.1, h9.2.1, ?_⟩
  by_cases e : j = x.toNatClampNeg
  · subst e
    simp only [upd, if_pos]
    rw [h9.1]
    exact ⟨rfl, rfl⟩
  · simp only [upd, if_neg e]
    exact h9.2.2
theorem rlC_drop {n n' : Int32} {fk fn fc fd : Nat → Int32} {A : clsA} (h : rlC n fk fn fc fd A) (h1 : 1 ≤ n.toInt) (hn : n'.toInt = n.toInt - 1) : rlC n' fk fn fc fd (A.1 - 1, A.2) := by
  have h0 := h.1
  refine ⟨by show n'.toInt = ((A.1 - 1 : Nat) : Int); omega, fun j hj => ?_⟩
  have hj : j < A.1 - 1 := hj
  exact h.2 j (by omega)
/-- which clause() is taken -/
def clV (n0 k n c d : Int32) : Prop := (0 ≤ k.toInt ∧ k.toInt ≤ 12) ∧ ((lsT k.toNatClampNeg).toInt ≤ n.toInt ∧ n.toInt ≤ (msT k.toNatClampNeg).toInt) ∧ mayP k.toNatClampNeg c d n0
/-- clause(), in the class -/
def clauseC (n0 k n c d r u0 : Int32) (f1 f2 f3 f4 u1 u2 u3 u4 : Nat → Int32) : Prop := (¬ clV n0 k n c d ∧ r.toInt = -2 ∧ (u0 = n0 ∧ u1 = f1 ∧ u2 = f2 ∧ u3 = f3 ∧ u4 = f4)) ∨ (clV n0 k n c d ∧ 24 ≤ n0.toInt ∧ r.toInt = -4 ∧ (u0 = n0 ∧ u1 = f1 ∧ u2 = f2 ∧ u3 = f3 ∧ u4 = f4)) ∨ (clV n0 k n c d ∧ n0.toInt < 24 ∧ r = n0 ∧ u0.toInt = n0.toInt + 1 ∧ u1 = upd f1 n0.toNatClampNeg k ∧ u2 = upd f2 n0.toNatClampNeg n ∧ u3 = upd f3 n0.toNatClampNeg (if 1 ≤ (nmT k.toNatClampNeg).toInt then c else -1) ∧ u4 = upd f4 n0.toNatClampNeg (if (nmT k.toNatClampNeg).toInt = 2 then d else -1))
/-- clause(), in the reference -/
def clauseR (n0 k n c d r u0 : Int32) (f1 f2 f3 f4 u1 u2 u3 u4 : Nat → Int32) : Prop := (¬ clV n0 k n c d ∧ r.toInt = -2 ∧ (u0 = n0 ∧ u1 = f1 ∧ u2 = f2 ∧ u3 = f3 ∧ u4 = f4)) ∨ (clV n0 k n c d ∧ 24 ≤ n0.toInt ∧ r.toInt = -4 ∧ (u0 = n0 ∧ u1 = f1 ∧ u2 = f2 ∧ u3 = f3 ∧ u4 = f4)) ∨ (clV n0 k n c d ∧ n0.toInt < 24 ∧ r.toInt = n0.toInt ∧ u0.toInt = n0.toInt + 1 ∧ u1 = upd f1 n0.toNatClampNeg k ∧ u2 = upd f2 n0.toNatClampNeg n ∧ u3 = upd f3 n0.toNatClampNeg c ∧ u4 = upd f4 n0.toNatClampNeg d)
/-- the reference's clauses by number -/
abbrev rfA (m : Int32) (g1 g2 g3 g4 : Nat → Int32) : clsA := (m.toNatClampNeg, g1, g2, g3, g4)
theorem rlC_size {n m : Int32} {fk fn fc fd g1 g2 g3 g4 : Nat → Int32} (h : rlC n fk fn fc fd (rfA m g1 g2 g3 g4)) (hm : 0 ≤ m.toInt) : n = m := by
  have h1 := h.1
  have h2 := tn hm
  exact Int32.toInt_inj.1 (h1.trans h2)
theorem clause_rel {n m k v c d r r' u0 w0 : Int32} {f1 f2 f3 f4 u1 u2 u3 u4 g1 g2 g3 g4 w1 w2 w3 w4 : Nat → Int32} (R : rlC n f1 f2 f3 f4 (rfA m g1 g2 g3 g4)) (hm : 0 ≤ m.toInt) (C : clauseC n k v c d r u0 f1 f2 f3 f4 u1 u2 u3 u4) (M : clauseR m k v c d r' w0 g1 g2 g3 g4 w1 w2 w3 w4) : r = r' ∧ rlC u0 u1 u2 u3 u4 (rfA w0 w1 w2 w3 w4) := by
  have e := rlC_size R hm
  subst e
  rcases C with ⟨c1, c2, c3⟩ | ⟨c1, c2, c3, c4⟩ | ⟨c1, c2, c3, c4, c5, c6, c7, c8⟩
  · rcases M with ⟨m1, m2, m3⟩ | ⟨m1, _⟩ | ⟨m1, _⟩
    · obtain ⟨rfl, rfl, rfl, rfl, rfl⟩ := c3
      obtain ⟨rfl, rfl, rfl, rfl, rfl⟩ := m3
      exact ⟨Int32.toInt_inj.1 (by omega), R⟩
    · exact absurd m1 c1
    · exact absurd m1 c1
  · rcases M with ⟨m1, _⟩ | ⟨m1, m2, m3, m4⟩ | ⟨m1, m2, _⟩
    · exact absurd c1 m1
    · obtain ⟨rfl, rfl, rfl, rfl, rfl⟩ := c4
      obtain ⟨rfl, rfl, rfl, rfl, rfl⟩ := m4
      exact ⟨Int32.toInt_inj.1 (by omega), R⟩
    · omega
  · rcases M with ⟨m1, _⟩ | ⟨m1, m2, _⟩ | ⟨m1, m2, m3, m4, m5, m6, m7, m8⟩
    · exact absurd c1 m1
    · omega
    · refine ⟨Int32.toInt_inj.1 (by rw [c3, m3]), ?_⟩
      have h := rlC_push (k := k) (v := v) (c := c) (d := d) R c4
      rw [c5, c6, c7, c8, m5, m6, m7, m8]
      have e1 : w0.toNatClampNeg = n.toNatClampNeg + 1 := tnS hm m4
      show rlC u0 _ _ _ _ (w0.toNatClampNeg, _, _, _, _)
      rw [e1]
      exact h
/-- swap(), in the class and in the reference -/
def swV (n0 x c d : Int32) (f1 : Nat → Int32) : Prop := (0 ≤ x.toInt ∧ x.toInt < n0.toInt) ∧ mayP (f1 x.toNatClampNeg).toNatClampNeg c d x
def swapC (n0 x c d r u0 : Int32) (f1 f2 f3 f4 u1 u2 u3 u4 : Nat → Int32) : Prop := (u0 = n0 ∧ u1 = f1 ∧ u2 = f2) ∧ ((¬ swV n0 x c d f1 ∧ r.toInt = -2 ∧ u3 = f3 ∧ u4 = f4) ∨ (swV n0 x c d f1 ∧ r.toInt = 1 ∧ u3 = upd f3 x.toNatClampNeg (if 1 ≤ (nmT (f1 x.toNatClampNeg).toNatClampNeg).toInt then c else -1) ∧ u4 = upd f4 x.toNatClampNeg (if (nmT (f1 x.toNatClampNeg).toNatClampNeg).toInt = 2 then d else -1)))
def swapR (n0 x c d r : Int32) (f1 f3 f4 u3 u4 : Nat → Int32) : Prop := (¬ swV n0 x c d f1 ∧ r.toInt = -2 ∧ u3 = f3 ∧ u4 = f4) ∨ (swV n0 x c d f1 ∧ r.toInt = 1 ∧ u3 = upd f3 x.toNatClampNeg c ∧ u4 = upd f4 x.toNatClampNeg d)
theorem swap_rel {n m x c d r r' u0 : Int32} {f1 f2 f3 f4 u1 u2 u3 u4 g1 g2 g3 g4 w3 w4 : Nat → Int32} (R : rlC n f1 f2 f3 f4 (rfA m g1 g2 g3 g4)) (hm : 0 ≤ m.toInt) (C : swapC n x c d r u0 f1 f2 f3 f4 u1 u2 u3 u4) (M : swapR m x c d r' g1 g3 g4 w3 w4) : r = r' ∧ rlC u0 u1 u2 u3 u4 (rfA m g1 g2 w3 w4) := by
  have e := rlC_size R hm
  subst e
  obtain ⟨⟨rfl, rfl, rfl⟩, C⟩ := C
  have key : 0 ≤ x.toInt ∧ x.toInt < u0.toInt → u1 x.toNatClampNeg = g1 x.toNatClampNeg := fun h => by
    have h1 := R.1
    have h2 := tn h.1
    have h3 := tn hm
    exact (R.2 x.toNatClampNeg (by show x.toNatClampNeg < u0.toNatClampNeg; omega)).1
  rcases C with ⟨c1, c2, c3, c4⟩ | ⟨c1, c2, c3, c4⟩
  · rcases M with ⟨m1, m2, m3, m4⟩ | ⟨m1, _⟩
    · subst c3; subst c4; subst m3; subst m4; exact ⟨Int32.toInt_inj.1 (by omega), R⟩
    · exact absurd ⟨m1.1, by rw [key m1.1]; exact m1.2⟩ c1
  · rcases M with ⟨m1, _⟩ | ⟨m1, m2, m3, m4⟩
    · exact absurd ⟨c1.1, by rw [← key c1.1]; exact c1.2⟩ m1
    · refine ⟨Int32.toInt_inj.1 (by omega), ?_⟩
      rw [c3, c4, m3, m4]
      exact rlC_swap (c := c) (d := d) R c1.1
theorem drop_rel {n m r r' u0 w0 : Int32} {f1 f2 f3 f4 g1 g2 g3 g4 : Nat → Int32} (R : rlC n f1 f2 f3 f4 (rfA m g1 g2 g3 g4)) (hm : 0 ≤ m.toInt) (C : dropC n r u0) (M : dropC m r' w0) : r = r' ∧ rlC u0 f1 f2 f3 f4 (rfA w0 g1 g2 g3 g4) := by
  have e := rlC_size R hm
  subst e
  rcases C with ⟨c1, c2, c3⟩ | ⟨c1, c2, c3⟩
  · rcases M with ⟨m1, m2, m3⟩ | ⟨m1, _⟩
    · subst c3; subst m3; exact ⟨Int32.toInt_inj.1 (by omega), R⟩
    · omega
  · rcases M with ⟨m1, _⟩ | ⟨m1, m2, m3⟩
    · omega
    · have e2 : u0 = w0 := Int32.toInt_inj.1 (by omega)
      subst e2
      refine ⟨c2.trans m2.symm, ?_⟩
      have h := rlC_drop R (by omega) c3
      have h2 : u0.toNatClampNeg = n.toNatClampNeg - 1 := by
        have h3 := tn hm
        have h4 := tn (x := u0) (by omega)
        omega
      show rlC u0 _ _ _ _ (u0.toNatClampNeg, _, _, _, _)
      rw [h2]
      exact h
/-! sum -/
/-- behind k more clauses of a bag: the last one's number, all clauses -/
def sumF (g : Nat → Int32) (A : clsA) : Nat → Int32 × clsA
  | 0 => (g 0, A)
  | k + 1 => (nI (sumF g A k).2.1, clsP (sumF g A k).2 5 0 (sumF g A k).1 (g (k + 1)))
theorem sumF_ext {g g' : Nat → Int32} {A : clsA} : ∀ k : Nat, (∀ j : Nat, j < k + 1 → g j = g' j) → sumF g A k = sumF g' A k
  | 0, h => by
    show (g 0, A) = (g' 0, A)
    rw [h 0 (by omega)]
  | k + 1, h => by
    show (nI (sumF g A k).2.1, clsP (sumF g A k).2 5 0 (sumF g A k).1 (g (k + 1))) = (nI (sumF g' A k).2.1, clsP (sumF g' A k).2 5 0 (sumF g' A k).1 (g' (k + 1)))
    rw [sumF_ext k (fun j hj => h j (by omega)), h (k + 1) (by omega)]
theorem sumF_many {g : Nat → Int32} {A : clsA} : ∀ k : Nat, (sumF g A k).2.1 = A.1 + k
  | 0 => rfl
  | k + 1 => by
    show (sumF g A k).2.1 + 1 = A.1 + (k + 1)
    rw [sumF_many k]
    omega
/-- sum(): where it is taken -/
abbrev sumN (n0 : Int32) (m : Int32) (g : Nat → Int32) : Prop := 1 ≤ m.toInt ∧ ∀ j : Nat, (j : Int) < m.toInt → 0 ≤ (g j).toInt ∧ (g j).toInt < n0.toInt
/-- what sum() answers and does, in the class: m, g is the bag -/
def sumC (n0 r u0 m : Int32) (g f1 f2 f3 f4 u1 u2 u3 u4 : Nat → Int32) (bad : Prop) : Prop := (bad ∧ r.toInt = -2 ∧ (u0 = n0 ∧ u1 = f1 ∧ u2 = f2 ∧ u3 = f3 ∧ u4 = f4)) ∨ (¬ bad ∧ ¬ sumN n0 m g ∧ r.toInt = -1 ∧ (u0 = n0 ∧ u1 = f1 ∧ u2 = f2 ∧ u3 = f3 ∧ u4 = f4)) ∨ (¬ bad ∧ sumN n0 m g ∧ 24 < n0.toInt + m.toInt - 1 ∧ r.toInt = -4 ∧ (u0 = n0 ∧ u1 = f1 ∧ u2 = f2 ∧ u3 = f3 ∧ u4 = f4)) ∨ (¬ bad ∧ sumN n0 m g ∧ n0.toInt + m.toInt - 1 ≤ 24 ∧ ∀ A : clsA, rlC n0 f1 f2 f3 f4 A → r = (sumF g A (m.toNatClampNeg - 1)).1 ∧ rlC u0 u1 u2 u3 u4 (sumF g A (m.toNatClampNeg - 1)).2)
/-- in the reference -/
def sumR (n0 r u0 m : Int32) (g f1 f2 f3 f4 u1 u2 u3 u4 : Nat → Int32) (bad : Prop) : Prop := (bad ∧ r.toInt = -2 ∧ (u0 = n0 ∧ u1 = f1 ∧ u2 = f2 ∧ u3 = f3 ∧ u4 = f4)) ∨ (¬ bad ∧ ¬ sumN n0 m g ∧ r.toInt = -1 ∧ (u0 = n0 ∧ u1 = f1 ∧ u2 = f2 ∧ u3 = f3 ∧ u4 = f4)) ∨ (¬ bad ∧ sumN n0 m g ∧ 24 < n0.toInt + m.toInt - 1 ∧ r.toInt = -4 ∧ (u0 = n0 ∧ u1 = f1 ∧ u2 = f2 ∧ u3 = f3 ∧ u4 = f4)) ∨ (¬ bad ∧ sumN n0 m g ∧ n0.toInt + m.toInt - 1 ≤ 24 ∧ r = (sumF g (rfA n0 f1 f2 f3 f4) (m.toNatClampNeg - 1)).1 ∧ rfA u0 u1 u2 u3 u4 = (sumF g (rfA n0 f1 f2 f3 f4) (m.toNatClampNeg - 1)).2)
theorem sum_rel {n n' r r' u0 w0 m m' : Int32} {g h f1 f2 f3 f4 u1 u2 u3 u4 g1 g2 g3 g4 w1 w2 w3 w4 : Nat → Int32} {bad : Prop} (R : rlC n f1 f2 f3 f4 (rfA n' g1 g2 g3 g4)) (hn : 0 ≤ n'.toInt) (hB : ¬ bad → m = m' ∧ ∀ i : Nat, (i : Int) < m.toInt → g i = h i) (C : sumC n r u0 m g f1 f2 f3 f4 u1 u2 u3 u4 bad) (M : sumR n' r' w0 m' h g1 g2 g3 g4 w1 w2 w3 w4 bad) : r = r' ∧ rlC u0 u1 u2 u3 u4 (rfA w0 w1 w2 w3 w4) := by
  have e := rlC_size R hn
  subst e
  have same : (u0 = n ∧ u1 = f1 ∧ u2 = f2 ∧ u3 = f3 ∧ u4 = f4) → (w0 = n ∧ w1 = g1 ∧ w2 = g2 ∧ w3 = g3 ∧ w4 = g4) → rlC u0 u1 u2 u3 u4 (rfA w0 w1 w2 w3 w4) := fun a b => by
    obtain ⟨rfl, rfl, rfl, rfl, rfl⟩ := a
    obtain ⟨rfl, rfl, rfl, rfl, rfl⟩ := b
    exact R
  by_cases hb : bad
  · rcases C with ⟨c1, c2, c3⟩ | ⟨c1, _⟩ | ⟨c1, _⟩ | ⟨c1, _⟩
    · rcases M with ⟨m1, m2, m3⟩ | ⟨m1, _⟩ | ⟨m1, _⟩ | ⟨m1, _⟩
      · exact ⟨Int32.toInt_inj.1 (by omega), same c3 m3⟩
      · exact absurd hb m1
      · exact absurd hb m1
      · exact absurd hb m1
    · exact absurd hb c1
    · exact absurd hb c1
    · exact absurd hb c1
  · obtain ⟨e, hg⟩ := hB hb
    subst e
    have hN : sumN n m g ↔ sumN n m h := ⟨fun a => ⟨a.1, fun j hj => by rw [← hg j hj]; exact a.2 j hj⟩, fun a => ⟨a.1, fun j hj => by rw [hg j hj]; exact a.2 j hj⟩⟩
    rcases C with ⟨c1, _⟩ | ⟨_, c1, c2, c3⟩ | ⟨_, c0, c1, c2, c3⟩ | ⟨_, c0, c1, c2⟩
    · exact absurd c1 hb
    · rcases M with ⟨m1, _⟩ | ⟨_, m1, m2, m3⟩ | ⟨_, m0, _⟩ | ⟨_, m0, _⟩
      · exact absurd m1 hb
      · exact ⟨Int32.toInt_inj.1 (by omega), same c3 m3⟩
      · exact absurd (hN.2 m0) c1
      · exact absurd (hN.2 m0) c1
    · rcases M with ⟨m1, _⟩ | ⟨_, m1, _⟩ | ⟨_, m0, m1, m2, m3⟩ | ⟨_, m0, m1, _⟩
      · exact absurd m1 hb
      · exact absurd (hN.1 c0) m1
      · exact ⟨Int32.toInt_inj.1 (by omega), same c3 m3⟩
      · omega
    · rcases M with ⟨m1, _⟩ | ⟨_, m1, _⟩ | ⟨_, m0, m1, _⟩ | ⟨_, m0, m1, m2, m3⟩
      · exact absurd m1 hb
      · exact absurd (hN.1 c0) m1
      · omega
      · obtain ⟨c4, c5⟩ := c2 _ R
        have t := tn (x := m) (by have := c0.1; omega)
        rw [sumF_ext (m.toNatClampNeg - 1) (fun j hj => hg j (by have := c0.1; omega))] at c4 c5
        refine ⟨by rw [c4, m2], ?_⟩
        rw [m3]
        exact c5
theorem sum_stepC {g : Nat → Int32} {n0 nn n' al r z ii ii' : Int32} {f1 f2 f3 f4 v1 v2 v3 v4 w1 w2 w3 w4 : Nat → Int32} (h1 : 1 ≤ ii.toInt) (hi : ii'.toInt = ii.toInt + 1) (H : ∀ A : clsA, rlC n0 f1 f2 f3 f4 A → al = (sumF g A (ii.toNatClampNeg - 1)).1 ∧ rlC nn v1 v2 v3 v4 (sumF g A (ii.toNatClampNeg - 1)).2) (hz : z = g ii.toNatClampNeg) (hr : r = nn) (hn' : n'.toInt = nn.toInt + 1) (hw : w1 = upd v1 nn.toNatClampNeg 5 ∧ w2 = upd v2 nn.toNatClampNeg 0 ∧ w3 = upd v3 nn.toNatClampNeg (if 1 ≤ (nmT (5 : Int32).toNatClampNeg).toInt then al else -1) ∧ w4 = upd v4 nn.toNatClampNeg (if (nmT (5 : Int32).toNatClampNeg).toInt = 2 then z else -1)) : ∀ A : clsA, rlC n0 f1 f2 f3 f4 A → r = (sumF g A (ii'.toNatClampNeg - 1)).1 ∧ rlC n' w1 w2 w3 w4 (sumF g A (ii'.toNatClampNeg - 1)).2 := by
  intro A hA
  obtain ⟨a1, a2⟩ := H A hA
  have t := tn (x := ii) (by omega)
  have t2 := tnS (by omega) hi
  have e : ii'.toNatClampNeg - 1 = (ii.toNatClampNeg - 1) + 1 := by omega
  rw [e]
  obtain ⟨w5, w6, w7, w8⟩ := hw
  refine ⟨?_, ?_⟩
  · show r = nI (sumF g A (ii.toNatClampNeg - 1)).2.1
    rw [hr, ← rlC_clamp a2, nI_back (by have := a2.1; omega)]
  · show rlC n' w1 w2 w3 w4 (clsP (sumF g A (ii.toNatClampNeg - 1)).2 5 0 (sumF g A (ii.toNatClampNeg - 1)).1 (g (ii.toNatClampNeg - 1 + 1)))
    rw [← a1, show ii.toNatClampNeg - 1 + 1 = ii.toNatClampNeg by omega, ← hz, w5, w6, w7, w8]
    exact rlC_push a2 hn'
/-! asClause -/
def asCl (n9 h k s x : Int32) (fk : Nat → Int32) (r : Int32) : Prop := (¬ ((0 ≤ h.toInt ∧ h.toInt ≤ 3) ∧ 0 ≤ k.toInt ∧ k.toInt ≤ 3) ∧ r.toInt = -2) ∨ (((0 ≤ h.toInt ∧ h.toInt ≤ 3) ∧ 0 ≤ k.toInt ∧ k.toInt ≤ 3) ∧ ((s.toInt = 0 ∧ r.toInt = -11) ∨ (s.toInt ≠ 0 ∧ s.toInt ≠ 1 ∧ r.toInt = -13) ∨ (s.toInt = 1 ∧ ¬ (0 ≤ x.toInt ∧ x.toInt < n9.toInt) ∧ r.toInt = -11) ∨ (s.toInt = 1 ∧ (0 ≤ x.toInt ∧ x.toInt < n9.toInt) ∧ (k.toInt ≠ 3 ∧ (nmT (fk x.toNatClampNeg).toNatClampNeg).toInt ≠ k.toInt) ∧ r.toInt = -13) ∨ (s.toInt = 1 ∧ (0 ≤ x.toInt ∧ x.toInt < n9.toInt) ∧ ¬ (k.toInt ≠ 3 ∧ (nmT (fk x.toNatClampNeg).toNatClampNeg).toInt ≠ k.toInt) ∧ r.toInt = (fk x.toNatClampNeg).toInt)))
theorem asCl_uniq {n9 h k s x r r' : Int32} {fk : Nat → Int32} (a : asCl n9 h k s x fk r) (b : asCl n9 h k s x fk r') : r = r' := by
  refine Int32.toInt_inj.1 ?_
  unfold asCl at a b
  omega
theorem asCl_rel {n m h k s s' x x' r r' : Int32} {f1 f2 f3 f4 g1 g2 g3 g4 : Nat → Int32} (R : rlC n f1 f2 f3 f4 (rfA m g1 g2 g3 g4)) (hm : 0 ≤ m.toInt) (hH : (0 ≤ h.toInt ∧ h.toInt ≤ 3) → s = s' ∧ (s.toInt = 1 → x = x')) (a : asCl n h k s x f1 r) (b : asCl m h k s' x' g1 r') : r = r' := by
  have e := rlC_size R hm
  subst e
  by_cases hh : 0 ≤ h.toInt ∧ h.toInt ≤ 3
  · obtain ⟨e1, e2⟩ := hH hh
    subst e1
    by_cases h1 : s.toInt = 1
    · have e3 := e2 h1
      subst e3
      by_cases hx : 0 ≤ x.toInt ∧ x.toInt < n.toInt
      · have t := tn hx.1
        have t2 := tn hm
        have e4 : f1 x.toNatClampNeg = g1 x.toNatClampNeg := (R.2 x.toNatClampNeg (by show x.toNatClampNeg < n.toNatClampNeg; omega)).1
        unfold asCl at a b
        rw [e4] at a
        exact Int32.toInt_inj.1 (by omega)
      · unfold asCl at a b
        exact Int32.toInt_inj.1 (by omega)
    · unfold asCl at a b
      exact Int32.toInt_inj.1 (by omega)
  · unfold asCl at a b
    exact Int32.toInt_inj.1 (by omega)
