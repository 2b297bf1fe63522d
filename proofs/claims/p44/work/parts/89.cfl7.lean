/-! cells of an array whose bounds go by a period -/
theorem pw_perR {pat : List (Int × Int)} {i r : Nat} {q : Int × Int} (e : i % pat.length = r) (hp : pat[r]? = some q) : pat[i % pat.length]? = some q := by rw [e]; exact hp
theorem pw_perW {pat : List (Int × Int)} {i r : Nat} {lo hi x : Int} (e : i % pat.length = r) (hp : pat[r]? = some (lo, hi)) (hx : lo ≤ x ∧ x ≤ hi) : ∀ q, pat[i % pat.length]? = some q → q.1 ≤ x ∧ x ≤ q.2 := by
  intro q hq
  rw [e, hp] at hq
  cases hq
  exact hx
