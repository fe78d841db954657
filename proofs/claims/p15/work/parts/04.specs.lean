/-! what each call answers on a fresh object -/
def sp_start (a b c : Int32) : Int32 := if (-99 ≤ a.toInt ∧ a.toInt ≤ 99) ∧ (0 ≤ b.toInt ∧ b.toInt ≤ 9) ∧ 0 ≤ c.toInt ∧ c.toInt ≤ 9 then 1 else -2
def sp_odds (p q : Int32) : Int32 := if (2 ≤ q.toInt ∧ q.toInt ≤ 9) ∧ 0 ≤ p.toInt ∧ p.toInt ≤ q.toInt then 1 else -2
def sp_wait (a b : Int32) : Int32 := if (1 ≤ b.toInt ∧ b.toInt ≤ 9) ∧ 1 ≤ a.toInt ∧ a.toInt ≤ b.toInt then 1 else -2
def sp_price (d s : Int32) : Int32 := if (0 ≤ d.toInt ∧ d.toInt ≤ 6) ∧ 0 ≤ s.toInt ∧ s.toInt ≤ d.toInt then ((0 + (1 * s)) - (1 * (d - s))) else -2
def sp_ush (x k : Int32) : Int32 := (x.toUInt32 >>> (k.toUInt32 &&& Int32.toUInt32 31)).toInt32
def sp_bits (x : Int32) : Int32 :=
  let a := x - (sp_ush x 1 &&& 1431655765)
  let b := (a &&& 858993459) + (sp_ush a 2 &&& 858993459)
  let c := (b + sp_ush b 4) &&& 252645135
  let d := c + sp_ush c 8
  let e := d + sp_ush d 16
  e &&& 63
def sp_spotOf (p d : Int32) : Int32 := if (0 ≤ p.toInt ∧ p.toInt ≤ 63) ∧ 0 ≤ d.toInt ∧ d.toInt ≤ 6 then sp_bits (p &&& ((1 <<< (d &&& 31)) - 1)) else -2
def sp_clause (k n c d : Int32) : Int32 := if (0 ≤ k.toInt ∧ k.toInt ≤ 1) ∧ n.toInt = 0 ∧ c.toInt = 0 ∧ d.toInt = 0 then 0 else -2
def sp_feed (n : Int32) : Int32 := if 1 ≤ n.toInt ∧ n.toInt ≤ 4 then n else -2
def sp_take (b : Int32) : Int32 := if 0 ≤ b.toInt ∧ b.toInt ≤ 2 then -1 else -2
def sp_bagOf (b : Int32) : Int32 := if 0 ≤ b.toInt ∧ b.toInt ≤ 2 then -12 else -2
def sp_pour (f t k : Int32) : Int32 := if (0 ≤ f.toInt ∧ f.toInt ≤ 2) ∧ (0 ≤ t.toInt ∧ t.toInt ≤ 2) ∧ f.toInt ≠ t.toInt ∧ -1 ≤ k.toInt ∧ k.toInt ≤ 12 then 0 else -2
def sp_bagBest (b d s : Int32) : Int32 := if (0 ≤ b.toInt ∧ b.toInt ≤ 2) ∧ (0 ≤ d.toInt ∧ d.toInt ≤ 6) ∧ 0 ≤ s.toInt ∧ s.toInt ≤ d.toInt then -1 else -2
def sp_sheet (s sort n : Int32) : Int32 := if (0 ≤ s.toInt ∧ s.toInt ≤ 3) ∧ -1 ≤ sort.toInt ∧ sort.toInt ≤ 3 then (if sort.toInt = -1 then 1 else if 30 < n.toInt then -2 else if n.toInt < 0 then -14 else 1) else -2
def sp_cell (s : Int32) : Int32 := if 0 ≤ s.toInt ∧ s.toInt ≤ 3 then -11 else -2
def sp_read (s how : Int32) : Int64 := if (0 ≤ s.toInt ∧ s.toInt ≤ 3) ∧ 0 ≤ how.toInt ∧ how.toInt ≤ 3 then -4611686018427387915 else -4611686018427387906
def sp_copy (a b : Int32) : Int32 := if (0 ≤ a.toInt ∧ a.toInt ≤ 3) ∧ 0 ≤ b.toInt ∧ b.toInt ≤ 3 then -11 else -2
def sp_hold (h sort : Int32) (v w : Int64) : Int32 := if (0 ≤ h.toInt ∧ h.toInt ≤ 3) ∧ (sort.toInt = 0 ∨ sort.toInt = 2 ∧ 1 ≤ w.toInt ∧ v.toInt ≠ -9223372036854775808) then 0 else -2
def sp_asClause (h k : Int32) : Int32 := if (0 ≤ h.toInt ∧ h.toInt ≤ 3) ∧ 0 ≤ k.toInt ∧ k.toInt ≤ 3 then -11 else -2
def sp_asFraction (h k : Int32) : Int64 := if (0 ≤ h.toInt ∧ h.toInt ≤ 3) ∧ 0 ≤ k.toInt ∧ k.toInt ≤ 1 then -4611686018427387915 else -4611686018427387906
def sp_count (w : Int32) : Int32 := if 0 ≤ w.toInt ∧ w.toInt ≤ 3 then 0 else -2
theorem pf_post {s r : Int32} (h : r = sp_cell s) : ((0 ≤ s.toInt ∧ s.toInt ≤ 3) ∧ r = -11) ∨ (¬ (0 ≤ s.toInt ∧ s.toInt ≤ 3) ∧ r = -2) := by
  unfold sp_cell at h
  by_cases hc : 0 ≤ s.toInt ∧ s.toInt ≤ 3
  · left; rw [if_pos hc] at h; exact ⟨hc, h⟩
  · right; rw [if_neg hc] at h; exact ⟨hc, h⟩
