theorem pu_charAtX (l : Launch) (dC : Nat → ClassId) (dI : Nat → Nat → Nat) (sa : Nat → Nat) (i k : Nat) (x : Int32) (sz : Nat) (hx : x = nI k) (hi : i < 20) (hk : k < lenS.getD i 0) : PU l dC dI sa yJ0_charAt_5068e wsJ0_charAt_5068e (rmJ 3) [.ref (sa (5 + i)), .int x] sz (some (.int (chS i k))) := by
  subst hx
  exact pu_charAt l dC dI sa i k sz hi hk
theorem at_nx {k le z : Int32} {n : Nat} (hm : (le.toInt - k.toInt).toNat < n + 1) (h : ¬ le ≤ k) (hz : z = k + 1) : (le.toInt - z.toInt).toNat < n := by
  have h1 : k < le := by
    rw [Int32.lt_iff_toInt_lt]
    rw [Int32.le_iff_toInt_le] at h
    omega
  have h2 := inc_toInt h1
  rw [Int32.lt_iff_toInt_lt] at h1
  rw [hz, h2]
  omega
