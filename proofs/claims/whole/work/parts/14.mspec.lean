/-! the reference: its rows lie as the class's do, S k is where row k begins -/
def md_S (ta le : Nat → Int32) (us rc : Nat) (S : Nat → Nat) : Prop := S 1 = 0 ∧ (∀ k, 1 ≤ k → k ≤ rc → ta k = nI (S k) ∧ le k = nI (S (k + 1) - S k)) ∧ (∀ k, 1 ≤ k → k ≤ rc → S k ≤ S (k + 1)) ∧ us = S (rc + 1) ∧ us ≤ 20000 ∧ rc ≤ 3000
theorem md_R {ta le : Nat → Int32} {us rc : Nat} {S : Nat → Nat} (h : md_S ta le us rc S) : cn_S (fun k => nI (S k)) rc S := ⟨h.1, fun _ _ _ => rfl, h.2.2.1, by rw [← h.2.2.2.1]; exact h.2.2.2.2.1, h.2.2.2.2.2⟩
/-- the order, as the reference tells it: -1 stands for 'no character' -/
theorem md_ord {sg : Nat → Int32} {a b n m i : Nat} {x y : Int32} (h1 : (n ≤ i ∧ x = -1) ∨ (i < n ∧ x = sg (a + i))) (h2 : (m ≤ i ∧ y = -1) ∨ (i < m ∧ y = sg (b + i))) (hinv : ∀ z, z < i → sg (a + z) = sg (b + z)) (hst : n ≤ i ∨ m ≤ i ∨ ¬ sg (a + i) = sg (b + i)) (hpu : ∀ z, z < n → ¬ sg (a + z) < 0) (hpv : ∀ z, z < m → ¬ sg (b + z) < 0) (hi1 : i ≤ n) (hi2 : i ≤ m) : sp_cmp (sp_sl sg a n) (sp_sl sg b m) = if x < y then -1 else if y < x then 1 else 0 := by
  have key : ∀ z : Int32, ¬ z < 0 → (-1 : Int32) < z ∧ ¬ z < -1 := by
    intro z hz
    rw [Int32.lt_iff_toInt_lt] at hz
    rw [Int32.lt_iff_toInt_lt, Int32.lt_iff_toInt_lt]
    have e0 : (0 : Int32).toInt = 0 := by decide
    have e1 : (-1 : Int32).toInt = -1 := by decide
    omega
  rcases h1 with ⟨h1, rfl⟩ | ⟨h1, rfl⟩
  · rcases h2 with ⟨h2, rfl⟩ | ⟨h2, rfl⟩
    · rw [cn_cmp_end _ _ _ _ (fun z q1 q2 => hinv z (by omega)), if_pos (show n = m by omega), if_neg Int32.lt_irrefl, if_neg Int32.lt_irrefl]
    · rw [cn_cmp_end _ _ _ _ (fun z q1 q2 => hinv z (by omega)), if_neg (show ¬ n = m by omega), if_pos (show n < m by omega), if_pos (key _ (hpv i h2)).1]
  · rcases h2 with ⟨h2, rfl⟩ | ⟨h2, rfl⟩
    · rw [cn_cmp_end _ _ _ _ (fun z q1 q2 => hinv z (by omega)), if_neg (show ¬ n = m by omega), if_neg (show ¬ n < m by omega), if_neg (key _ (hpu i h1)).2, if_pos (key _ (hpu i h1)).1]
    · have hne : ¬ sg (a + i) = sg (b + i) := by
        rcases hst with q | q | q
        · exact absurd h1 (by omega)
        · exact absurd h2 (by omega)
        · exact q
      rw [cn_cmp_diff i a b n m hinv h1 h2 hne]
      by_cases q : sg (a + i) < sg (b + i)
      · rw [if_pos q, if_pos q]
      · rw [if_neg q, if_neg q, if_pos]
        rw [Int32.lt_iff_toInt_lt] at q ⊢
        have : ¬ (sg (a + i)).toInt = (sg (b + i)).toInt := fun z => hne (Int32.toInt_inj.mp z)
        omega
def md_an (o : Option Nat) : Int32 := match o with
  | some k => nI k
  | none => nI 0
theorem md_fd_hit {F : Option Nat} {d : List Int32} {ch : Nat → Int32} {S : Nat → Nat} {k rc : Nat} (hk : k ≤ rc) (hinv : F = sp_fd d (cn_rows ch S k (rc + 1 - k)) k) (h : cn_row ch S k = d) : F = some k := by
  rw [hinv, show rc + 1 - k = (rc - k) + 1 by omega, cn_rows_cons, sp_fd, if_pos h]
theorem md_fd_end {F : Option Nat} {d : List Int32} {ch : Nat → Int32} {S : Nat → Nat} {k rc : Nat} (hk : rc < k) (hinv : F = sp_fd d (cn_rows ch S k (rc + 1 - k)) k) : F = none := by
  rw [hinv, show rc + 1 - k = 0 by omega, cn_rows_0]
  rfl
theorem sp_in_iff {c : Int32} : ∀ (m t0 : Nat), sp_in c t0 m = true ↔ ∃ t, t0 ≤ t ∧ t < t0 + m ∧ sp_tb.getD (2 * t) 0 ≤ c ∧ c ≤ sp_tb.getD (2 * t + 1) 0 := by
  intro m
  induction m with
  | zero => intro t0; simp only [sp_in]; constructor
            · intro h; cases h
            · rintro ⟨t, h1, h2, -⟩; omega
  | succ m ih =>
    intro t0
    rw [sp_in, Bool.or_eq_true, Bool.and_eq_true, decide_eq_true_eq, decide_eq_true_eq, ih]
    constructor
    · rintro (⟨h1, h2⟩ | ⟨t, h1, h2, h3⟩)
      · exact ⟨t0, Nat.le_refl _, by omega, h1, h2⟩
      · exact ⟨t, by omega, by omega, h3⟩
    · rintro ⟨t, h1, h2, h3, h4⟩
      by_cases q : t = t0
      · subst q; exact Or.inl ⟨h3, h4⟩
      · exact Or.inr ⟨t, by omega, by omega, h3, h4⟩
/-- c lies between lo and hi -/
def sp_bt (c lo hi : Int32) : Prop := lo ≤ c ∧ c ≤ hi
theorem sp_ns_of {c lo hi : Int32} (t : Nat) (ht : t < 16) (h : sp_bt c lo hi) (h1 : sp_tb.getD (2 * t) 0 ≤ lo) (h2 : hi ≤ sp_tb.getD (2 * t + 1) 0) : sp_ns c = true := by
  unfold sp_ns
  rw [sp_in_iff]
  refine ⟨t, Nat.zero_le _, by omega, ?_, ?_⟩
  · exact Int32.le_trans h1 h.1
  · exact Int32.le_trans h.2 h2
theorem sp_ns_not {c : Int32} (h : ∀ t, t < 16 → ¬ sp_bt c (sp_tb.getD (2 * t) 0) (sp_tb.getD (2 * t + 1) 0)) : sp_ns c = false := by
  cases hn : sp_ns c with
  | false => rfl
  | true =>
    unfold sp_ns at hn
    rw [sp_in_iff] at hn
    obtain ⟨t, -, h2, h3, h4⟩ := hn
    exact absurd ⟨h3, h4⟩ (h t (by omega))
theorem sp_bt_two {c : Int32} {a : Nat} (ha : a + 1 < 2 ^ 31) (h1 : ¬ c = nI a) (h2 : ¬ c = nI (a + 1)) : ¬ sp_bt c (nI a) (nI (a + 1)) := by
  rintro ⟨q1, q2⟩
  rw [Int32.le_iff_toInt_le, nI_toInt (by omega)] at q1
  rw [Int32.le_iff_toInt_le, nI_toInt ha] at q2
  have g1 : ¬ c.toInt = (a : Int) := fun z => h1 (Int32.toInt_inj.mp (by rw [nI_toInt (by omega)]; exact z))
  have g2 : ¬ c.toInt = ((a + 1 : Nat) : Int) := fun z => h2 (Int32.toInt_inj.mp (by rw [nI_toInt ha]; exact z))
  omega
theorem sp_bt_one {c : Int32} {a : Nat} (ha : a < 2 ^ 31) (h1 : ¬ c = nI a) : ¬ sp_bt c (nI a) (nI a) := by
  rintro ⟨q1, q2⟩
  exact h1 (Int32.le_antisymm q2 q1)
