theorem sp_bt_eq {c a : Int32} (h : c = a) : sp_bt c a a := by
  subst h
  exact ⟨Int32.le_refl _, Int32.le_refl _⟩
theorem md_ns_no {c : Int32} (h0 : ¬ c = nI 58) (h1 : ¬ sp_bt c (nI 65) (nI 90)) (h2 : ¬ c = nI 95) (h3 : ¬ sp_bt c (nI 97) (nI 122)) (h4 : ¬ sp_bt c (nI 192) (nI 214)) (h5 : ¬ sp_bt c (nI 216) (nI 246)) (h6 : ¬ sp_bt c (nI 248) (nI 767)) (h7 : ¬ sp_bt c (nI 880) (nI 893)) (h8 : ¬ sp_bt c (nI 895) (nI 8191)) (h9 : ¬ c = nI 8204) (h9' : ¬ c = nI 8205) (h10 : ¬ sp_bt c (nI 8304) (nI 8591)) (h11 : ¬ sp_bt c (nI 11264) (nI 12271)) (h12 : ¬ sp_bt c (nI 12289) (nI 55295)) (h13 : ¬ sp_bt c (nI 63744) (nI 64975)) (h14 : ¬ sp_bt c (nI 65008) (nI 65533)) (h15 : ¬ sp_bt c (nI 65536) (nI 983039)) : sp_ns c = false := by
  apply sp_ns_not
  intro t ht
  rcases (show t = 0 ∨ t = 1 ∨ t = 2 ∨ t = 3 ∨ t = 4 ∨ t = 5 ∨ t = 6 ∨ t = 7 ∨ t = 8 ∨ t = 9 ∨ t = 10 ∨ t = 11 ∨ t = 12 ∨ t = 13 ∨ t = 14 ∨ t = 15 by omega) with rfl | rfl | rfl | rfl | rfl | rfl | rfl | rfl | rfl | rfl | rfl | rfl | rfl | rfl | rfl | rfl
  · exact sp_bt_one (a := 58) (by decide) h0
  · exact h1
  · exact sp_bt_one (a := 95) (by decide) h2
  · exact h3
  · exact h4
  · exact h5
  · exact h6
  · exact h7
  · exact h8
  · exact sp_bt_two (a := 8204) (by decide) h9 h9'
  · exact h10
  · exact h11
  · exact h12
  · exact h13
  · exact h14
  · exact h15
theorem sp_ix_spec {f : Nat → Int32} : ∀ (n a : Nat), (∀ i, i < sp_ix (sp_sl f a n) → f (a + i) ≠ nI 58) ∧ (sp_ix (sp_sl f a n) < n → f (a + sp_ix (sp_sl f a n)) = nI 58) := by
  intro n
  induction n with
  | zero => intro a; exact ⟨fun i h => absurd h (Nat.not_lt_zero i), fun h => absurd h (Nat.not_lt_zero _)⟩
  | succ n ih =>
    intro a
    rw [sp_cons, sp_ix]
    by_cases q : f a = nI 58
    · rw [if_pos q]
      exact ⟨fun i h => absurd h (Nat.not_lt_zero i), fun _ => q⟩
    · rw [if_neg q]
      have e1 : ∀ z c : Nat, c + (z + 1) = c + 1 + z := fun z c => by omega
      refine ⟨fun i hi => ?_, fun h => ?_⟩
      · cases i with
        | zero => exact q
        | succ i => rw [e1]; exact (ih (a + 1)).1 i (by omega)
      · rw [e1]; exact (ih (a + 1)).2 (by omega)
/-- what the reference has counted behind i characters -/
def md_ci (f : Nat → Int32) (a i mn la : Nat) : Prop := (mn = 0 ∧ la = 0 ∧ ∀ z, z < i → f (a + z) ≠ nI 58) ∨ (mn = 1 ∧ la < i ∧ f (a + la) = nI 58 ∧ ∀ z, z < i → z ≠ la → f (a + z) ≠ nI 58) ∨ (2 ≤ mn ∧ la < i ∧ ∃ u v, u < v ∧ v < i ∧ f (a + u) = nI 58 ∧ f (a + v) = nI 58)
theorem md_ci_no {f : Nat → Int32} {a i mn la : Nat} (h : md_ci f a i mn la) (q : ¬ f (a + i) = nI 58) : md_ci f a (i + 1) mn la := by
  rcases h with ⟨h1, h2, h3⟩ | ⟨h1, h2, h3, h4⟩ | ⟨h1, h2, u, v, h3, h4, h5, h6⟩
  · refine Or.inl ⟨h1, h2, fun z hz => ?_⟩
    rcases Nat.lt_or_ge z i with w | w
    · exact h3 z w
    · rw [show z = i by omega]; exact q
  · refine Or.inr (Or.inl ⟨h1, by omega, h3, fun z hz hn => ?_⟩)
    rcases Nat.lt_or_ge z i with w | w
    · exact h4 z w hn
    · rw [show z = i by omega]; exact q
  · exact Or.inr (Or.inr ⟨h1, by omega, u, v, h3, by omega, h5, h6⟩)
theorem md_ci_yes {f : Nat → Int32} {a i mn la : Nat} (h : md_ci f a i mn la) (q : f (a + i) = nI 58) : md_ci f a (i + 1) (mn + 1) i := by
  rcases h with ⟨h1, h2, h3⟩ | ⟨h1, h2, h3, h4⟩ | ⟨h1, h2, u, v, h3, h4, h5, h6⟩
  · refine Or.inr (Or.inl ⟨by omega, by omega, q, fun z hz hn => h3 z (by omega)⟩)
  · exact Or.inr (Or.inr ⟨by omega, by omega, la, i, h2, by omega, h3, q⟩)
  · exact Or.inr (Or.inr ⟨by omega, by omega, u, v, h3, by omega, h5, h6⟩)
section MC
variable {sg : Nat → Int32} {S : Nat → Nat} {k mn la n : Nat}
theorem md_co_0 (hn : S (k + 1) - S k = n) (h : md_ci sg (S k) n mn la) (h0 : mn = 0) : nI 0 = sp_colonR (cn_row sg S k) := by
  subst hn
  rcases h with ⟨h1, h2, h3⟩ | ⟨h1, -⟩ | ⟨h1, -⟩
  · exact cn_co_0 rfl (cn_ix _ _ _ (Nat.le_refl _) h3 (fun q => absurd q (Nat.lt_irrefl _)))
  · omega
  · omega
theorem md_co_2 (hn : S (k + 1) - S k = n) (h : md_ci sg (S k) n mn la) (h0 : ¬ mn = 0) (h1 : ¬ mn = 1) : (-1 : Int32) = sp_colonR (cn_row sg S k) := by
  subst hn
  rcases h with ⟨q, -⟩ | ⟨q, -⟩ | ⟨-, -, u, v, g1, g2, g3, g4⟩
  · omega
  · omega
  · have s1 := sp_ix_spec (f := sg) (S (k + 1) - S k) (S k)
    obtain ⟨P, eP⟩ : ∃ P, P = sp_ix (sp_sl sg (S k) (S (k + 1) - S k)) := ⟨_, rfl⟩
    rw [← eP] at s1
    have hPu : P ≤ u := by
      rcases Nat.lt_or_ge u P with w | w
      · exact absurd g3 (s1.1 u w)
      · exact w
    refine cn_co_no1 (P2 := sp_ix (sp_sl sg (S k + P + 1) (S (k + 1) - (S k + P + 1)))) eP rfl (by omega) ?_
    intro q
    have s2 := (sp_ix_spec (f := sg) (S (k + 1) - (S k + P + 1)) (S k + P + 1)).1 (v - (P + 1)) (by omega)
    rw [show S k + P + 1 + (v - (P + 1)) = S k + v by omega] at s2
    exact s2 g4
theorem md_co_P (hn : S (k + 1) - S k = n) (h : md_ci sg (S k) n mn la) (h1 : mn = 1) : la < n ∧ la = sp_ix (sp_sl sg (S k) (S (k + 1) - S k)) ∧ S (k + 1) - (S k + la + 1) = sp_ix (sp_sl sg (S k + la + 1) (S (k + 1) - (S k + la + 1))) := by
  subst hn
  rcases h with ⟨q, -⟩ | ⟨-, g1, g2, g3⟩ | ⟨q, -⟩
  · omega
  · refine ⟨g1, ?_, ?_⟩
    · exact (cn_ix _ _ _ (by omega) (fun i hi => g3 i (by omega) (by omega)) (fun _ => g2)).symm
    · refine (cn_ix _ _ _ (Nat.le_refl _) (fun i hi => ?_) (fun q => absurd q (Nat.lt_irrefl _))).symm
      rw [show S k + la + 1 + i = S k + (la + 1 + i) by omega]
      exact g3 _ (by omega) (by omega)
  · omega
theorem md_co_yes (hn : S (k + 1) - S k = n) (h : md_ci sg (S k) n mn la) (h1 : mn = 1) (h2 : 0 < la) (h3 : la + 1 < n) (hns : sp_ns (sg (S k + la + 1)) = true) : nI la = sp_colonR (cn_row sg S k) := by
  obtain ⟨g1, g2, g3⟩ := md_co_P hn h h1
  rw [← cn_co_yes g2 g3 (by omega) rfl h2 (by omega) hns]
  congr 1
  omega
theorem md_co_no (hn : S (k + 1) - S k = n) (h : md_ci sg (S k) n mn la) (h1 : mn = 1) (h2 : ¬ (0 < la ∧ la + 1 < n)) : (-1 : Int32) = sp_colonR (cn_row sg S k) := by
  obtain ⟨g1, g2, g3⟩ := md_co_P hn h h1
  exact cn_co_no2 g2 (by omega) (by omega)
theorem md_co_ns (hn : S (k + 1) - S k = n) (h : md_ci sg (S k) n mn la) (h1 : mn = 1) (h3 : la + 1 < n) (hns : sp_ns (sg (S k + la + 1)) = false) : (-1 : Int32) = sp_colonR (cn_row sg S k) := by
  obtain ⟨g1, g2, g3⟩ := md_co_P hn h h1
  exact cn_co_no3 g2 (by omega) hns
end MC
