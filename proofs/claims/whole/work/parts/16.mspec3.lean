theorem md_ge {r : Int32} (h : 0 ≤ r) : ¬ r = -1 := by
  intro q
  subst q
  exact absurd h (by decide)
theorem md_neg {rows rows' : List (List Int32)} {d : List Int32} {r : Int32} (hl : rows.length ≤ 3000) (h : sp_numberOf rows d = (rows', r)) (hr : ¬ 0 ≤ r) : r = -1 := by
  rcases sp_nb_ans (d := d) hl with q | ⟨k, hk, q⟩
  · rw [h] at q; exact q
  · rw [h] at q
    have q : r = nI k := q
    rw [q] at hr
    exact absurd (nI_pos' hk) hr
theorem md_tk {dr f sg : Nat → Int32} {S : Nat → Nat} {n k i : Nat} (h : S (k + 1) - S k = i) (i1 : ∀ z, z < n → f z = dr z) (i2 : ∀ z, z < i → f (n + z) = sg (S k + z)) : sp_sl dr 0 n ++ cn_row sg S k = sp_sl f 0 (n + i) := by
  rw [sp_app f 0 n i]
  unfold cn_row
  rw [h]
  congr 1
  · apply sp_ext
    intro z hz
    rw [Nat.zero_add]
    exact (i1 z hz).symm
  · apply sp_ext
    intro z hz
    rw [Nat.zero_add]
    exact (i2 z hz).symm
