theorem md_ne {sg so : Nat → Int32} {S : Nat → Nat} {k sn i : Nat} (hlen : S (k + 1) - S k = sn) (hi : i < sn) (hc : ¬ sg (S k + i) = so i) : ¬ cn_row sg S k = sp_sl so 0 sn := by
  intro q
  rw [cn_row, hlen] at q
  have h := sp_at q i hi
  rw [Nat.zero_add] at h
  exact hc h
