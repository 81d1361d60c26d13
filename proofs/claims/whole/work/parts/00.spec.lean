/-! what the rows and the draft are, as lists -/
def sp_sl (f : Nat → Int32) (a n : Nat) : List Int32 := (List.range n).map (fun i => f (a + i))
theorem sp_len (f : Nat → Int32) (a n : Nat) : (sp_sl f a n).length = n := by simp [sp_sl]
theorem sp_get {f : Nat → Int32} {a n i : Nat} (h : i < n) : (sp_sl f a n)[i]? = some (f (a + i)) := by
  simp [sp_sl, h]
theorem sp_ext {f g : Nat → Int32} {a b n : Nat} (h : ∀ i, i < n → f (a + i) = g (b + i)) : sp_sl f a n = sp_sl g b n := by
  unfold sp_sl
  apply List.map_congr_left
  intro i hi
  exact h i (List.mem_range.mp hi)
theorem sp_at {f g : Nat → Int32} {a b n : Nat} (h : sp_sl f a n = sp_sl g b n) : ∀ i, i < n → f (a + i) = g (b + i) := by
  intro i hi
  have h1 : (sp_sl f a n)[i]? = (sp_sl g b n)[i]? := by rw [h]
  rw [sp_get hi, sp_get hi] at h1
  exact Option.some.inj h1
theorem sp_cons (f : Nat → Int32) (a n : Nat) : sp_sl f a (n + 1) = f a :: sp_sl f (a + 1) n := by
  unfold sp_sl
  rw [List.range_succ_eq_map, List.map_cons, List.map_map]
  congr 1
  apply List.map_congr_left
  intro i _
  show f (a + (i + 1)) = f (a + 1 + i)
  congr 1
  omega
theorem sp_snoc (f : Nat → Int32) (a n : Nat) : sp_sl f a (n + 1) = sp_sl f a n ++ [f (a + n)] := by
  unfold sp_sl
  rw [List.range_succ, List.map_append]
  rfl
theorem sp_app (f : Nat → Int32) (a n k : Nat) : sp_sl f a (n + k) = sp_sl f a n ++ sp_sl f (a + n) k := by
  induction k with
  | zero => simp [sp_sl]
  | succ k ih =>
    rw [← Nat.add_assoc, sp_snoc, ih, sp_snoc, List.append_assoc, Nat.add_assoc]
theorem sp_zero (f : Nat → Int32) (a : Nat) : sp_sl f a 0 = [] := rfl
theorem sp_take (f : Nat → Int32) (a n k : Nat) (h : k ≤ n) : (sp_sl f a n).take k = sp_sl f a k := by
  obtain ⟨j, rfl⟩ : ∃ j, n = k + j := ⟨n - k, by omega⟩
  rw [sp_app, List.take_append_of_le_length (by rw [sp_len]; exact Nat.le_refl _), List.take_of_length_le (by rw [sp_len]; exact Nat.le_refl _)]
theorem sp_drop (f : Nat → Int32) (a n k : Nat) (h : k ≤ n) : (sp_sl f a n).drop k = sp_sl f (a + k) (n - k) := by
  obtain ⟨j, rfl⟩ : ∃ j, n = k + j := ⟨n - k, by omega⟩
  rw [sp_app, List.drop_append_of_le_length (by rw [sp_len]; exact Nat.le_refl _), List.drop_of_length_le (by rw [sp_len]; exact Nat.le_refl _), List.nil_append]
  congr 1
  omega
/-- the number of the first row that is d, from number k on -/
def sp_fd (d : List Int32) : List (List Int32) → Nat → Option Nat
  | [], _ => none
  | r :: rs, k => if r = d then some k else sp_fd d rs (k + 1)
def sp_an (o : Option Nat) : Int32 := match o with
  | some k => nI k
  | none => -1
/-- the order of rows -/
def sp_cmp : List Int32 → List Int32 → Int32
  | [], [] => 0
  | [], _ :: _ => -1
  | _ :: _, [] => 1
  | x :: xs, y :: ys => if x = y then sp_cmp xs ys else if x < y then -1 else 1
/-- the places of the rows: S k is where row k begins -/
def cn_S (st : Nat → Int32) (rc : Nat) (S : Nat → Nat) : Prop := S 1 = 0 ∧ (∀ k, 1 ≤ k → k ≤ rc + 1 → st k = nI (S k)) ∧ (∀ k, 1 ≤ k → k ≤ rc → S k ≤ S (k + 1)) ∧ S (rc + 1) ≤ 20000 ∧ rc ≤ 3000
theorem cn_le {st : Nat → Int32} {rc : Nat} {S : Nat → Nat} (h : cn_S st rc S) : ∀ d k, 1 ≤ k → k + d ≤ rc + 1 → S k ≤ S (k + d) := by
  intro d
  induction d with
  | zero => intro k _ _; exact Nat.le_refl _
  | succ d ih =>
    intro k h1 h2
    exact Nat.le_trans (ih k h1 (by omega)) (h.2.2.1 (k + d) (by omega) (by omega))
theorem cn_mono {st : Nat → Int32} {rc : Nat} {S : Nat → Nat} (h : cn_S st rc S) {j k : Nat} (h1 : 1 ≤ j) (h2 : j ≤ k) (h3 : k ≤ rc + 1) : S j ≤ S k := by
  have := cn_le h (k - j) j h1 (by omega)
  rwa [show j + (k - j) = k by omega] at this
theorem cn_top {st : Nat → Int32} {rc : Nat} {S : Nat → Nat} (h : cn_S st rc S) {k : Nat} (h1 : 1 ≤ k) (h3 : k ≤ rc + 1) : S k ≤ 20000 := Nat.le_trans (cn_mono h h1 h3 (Nat.le_refl _)) h.2.2.2.1
def cn_row (ch : Nat → Int32) (S : Nat → Nat) (k : Nat) : List Int32 := sp_sl ch (S k) (S (k + 1) - S k)
/-- the rows k .. k + m - 1 -/
def cn_rows (ch : Nat → Int32) (S : Nat → Nat) (k m : Nat) : List (List Int32) := (List.range m).map (fun i => cn_row ch S (k + i))
theorem cn_rows_0 (ch : Nat → Int32) (S : Nat → Nat) (k : Nat) : cn_rows ch S k 0 = [] := rfl
theorem cn_rows_cons (ch : Nat → Int32) (S : Nat → Nat) (k m : Nat) : cn_rows ch S k (m + 1) = cn_row ch S k :: cn_rows ch S (k + 1) m := by
  unfold cn_rows
  rw [List.range_succ_eq_map, List.map_cons, List.map_map]
  congr 1
  apply List.map_congr_left
  intro i _
  show cn_row ch S (k + (i + 1)) = cn_row ch S (k + 1 + i)
  congr 1
  omega
theorem cn_rows_snoc (ch : Nat → Int32) (S : Nat → Nat) (k m : Nat) : cn_rows ch S k (m + 1) = cn_rows ch S k m ++ [cn_row ch S (k + m)] := by
  unfold cn_rows
  rw [List.range_succ, List.map_append]
  rfl
theorem cn_rows_len (ch : Nat → Int32) (S : Nat → Nat) (k m : Nat) : (cn_rows ch S k m).length = m := by simp [cn_rows]
theorem cn_rows_get {ch : Nat → Int32} {S : Nat → Nat} {k m i : Nat} (h : i < m) : (cn_rows ch S k m)[i]? = some (cn_row ch S (k + i)) := by
  simp [cn_rows, h]
theorem cn_rows_ext {ch ch' : Nat → Int32} {S S' : Nat → Nat} {k m : Nat} (h : ∀ i, i < m → cn_row ch S (k + i) = cn_row ch' S' (k + i)) : cn_rows ch S k m = cn_rows ch' S' k m := by
  unfold cn_rows
  apply List.map_congr_left
  intro i hi
  exact h i (List.mem_range.mp hi)
theorem sp_ne1 {k : Nat} (h : k < 2 ^ 31) : ¬ nI k = -1 := by
  intro q
  have h1 := congrArg Int32.toInt q
  rw [nI_toInt h] at h1
  have h2 : (-1 : Int32).toInt = -1 := by decide
  omega
/-- k is the number of a row -/
def cn_is (rc : Nat) (k : Int32) : Prop := ∃ j, 1 ≤ j ∧ j ≤ rc ∧ k = nI j
theorem cn_is_lo {rc : Nat} {k : Int32} (hrc : rc ≤ 3000) (h : k < nI 1) : ¬ cn_is rc k := by
  rintro ⟨j, h1, h2, rfl⟩
  exact nI_nlt h1 (by omega) h
theorem cn_is_hi {rc : Nat} {k : Int32} (hrc : rc ≤ 3000) (h : nI rc < k) : ¬ cn_is rc k := by
  rintro ⟨j, h1, h2, rfl⟩
  exact nI_nlt h2 (by omega) h
theorem cn_is_yes {rc : Nat} {k : Int32} (hrc : rc ≤ 3000) (h1 : ¬ k < nI 1) (h2 : ¬ nI rc < k) : cn_is rc k := by
  have h0 : ¬ k < 0 := by
    intro q
    apply h1
    rw [Int32.lt_iff_toInt_lt] at q ⊢
    have e1 : (nI 1).toInt = 1 := by decide
    have e0 : (0 : Int32).toInt = 0 := by decide
    omega
  obtain ⟨j, hj, rfl⟩ := nI_of h0
  refine ⟨j, ?_, ?_, rfl⟩
  · rcases Nat.lt_or_ge j 1 with q | q
    · exact absurd (nI_lt q (by decide)) h1
    · exact q
  · rcases Nat.lt_or_ge rc j with q | q
    · exact absurd (nI_lt q hj) h2
    · exact q
theorem cn_fd_hit {F : Option Nat} {d : List Int32} {ch : Nat → Int32} {S : Nat → Nat} {k rc : Nat} (hk : k ≤ rc) (hinv : F = sp_fd d (cn_rows ch S k (rc + 1 - k)) k) (h : cn_row ch S k = d) : nI k = sp_an F := by
  rw [hinv, show rc + 1 - k = (rc - k) + 1 by omega, cn_rows_cons, sp_fd, if_pos h]
  rfl
theorem cn_fd_miss {F : Option Nat} {d : List Int32} {ch : Nat → Int32} {S : Nat → Nat} {k rc : Nat} (hk : k ≤ rc) (hinv : F = sp_fd d (cn_rows ch S k (rc + 1 - k)) k) (h : ¬ cn_row ch S k = d) : F = sp_fd d (cn_rows ch S (k + 1) (rc + 1 - (k + 1))) (k + 1) := by
  rw [hinv, show rc + 1 - k = (rc - k) + 1 by omega, cn_rows_cons, sp_fd, if_neg h, show rc + 1 - (k + 1) = rc - k by omega]
theorem cn_fd_end {F : Option Nat} {d : List Int32} {ch : Nat → Int32} {S : Nat → Nat} {k rc : Nat} (hk : rc < k) (hinv : F = sp_fd d (cn_rows ch S k (rc + 1 - k)) k) : (-1 : Int32) = sp_an F := by
  rw [hinv, show rc + 1 - k = 0 by omega, cn_rows_0]
  rfl
theorem cn_cmp_diff {f : Nat → Int32} : ∀ (i a b n m : Nat), (∀ x, x < i → f (a + x) = f (b + x)) → i < n → i < m → ¬ f (a + i) = f (b + i) → sp_cmp (sp_sl f a n) (sp_sl f b m) = if f (a + i) < f (b + i) then -1 else 1 := by
  intro i
  induction i with
  | zero =>
    intro a b n m _ hn hm hne
    obtain ⟨n, rfl⟩ : ∃ z, n = z + 1 := ⟨n - 1, by omega⟩
    obtain ⟨m, rfl⟩ : ∃ z, m = z + 1 := ⟨m - 1, by omega⟩
    have hne : ¬ f a = f b := hne
    rw [sp_cons, sp_cons, sp_cmp, if_neg hne]
    rfl
  | succ i ih =>
    intro a b n m h hn hm hne
    obtain ⟨n, rfl⟩ : ∃ z, n = z + 1 := ⟨n - 1, by omega⟩
    obtain ⟨m, rfl⟩ : ∃ z, m = z + 1 := ⟨m - 1, by omega⟩
    have h0 : f a = f b := h 0 (by omega)
    rw [sp_cons, sp_cons, sp_cmp, if_pos h0]
    have e1 : ∀ z c : Nat, c + (z + 1) = c + 1 + z := fun z c => by omega
    rw [ih (a + 1) (b + 1) n m (fun x hx => by rw [← e1, ← e1]; exact h (x + 1) (by omega)) (by omega) (by omega) (by rw [← e1, ← e1]; exact hne), ← e1, ← e1]
theorem cn_cmp_end {f : Nat → Int32} : ∀ (n m a b : Nat), (∀ x, x < n → x < m → f (a + x) = f (b + x)) → sp_cmp (sp_sl f a n) (sp_sl f b m) = if n = m then 0 else if n < m then -1 else 1 := by
  intro n
  induction n with
  | zero =>
    intro m a b _
    cases m with
    | zero => rfl
    | succ m => rw [sp_cons]; rw [if_neg (by omega), if_pos (by omega)]; rfl
  | succ n ih =>
    intro m a b h
    cases m with
    | zero => rw [sp_cons, if_neg (by omega), if_neg (by omega)]; rfl
    | succ m =>
      have h0 : f a = f b := h 0 (by omega) (by omega)
      have e1 : ∀ z c : Nat, c + (z + 1) = c + 1 + z := fun z c => by omega
      rw [sp_cons, sp_cons, sp_cmp, if_pos h0, ih m (a + 1) (b + 1) (fun x hx hy => by rw [← e1, ← e1]; exact h (x + 1) (by omega) (by omega))]
      by_cases q : n = m
      · rw [if_pos q, if_pos (show n + 1 = m + 1 by omega)]
      · rw [if_neg q, if_neg (show ¬ n + 1 = m + 1 by omega)]
        by_cases q2 : n < m
        · rw [if_pos q2, if_pos (show n + 1 < m + 1 by omega)]
        · rw [if_neg q2, if_neg (show ¬ n + 1 < m + 1 by omega)]
theorem sp_min {x y : Nat} (hx : x < 2 ^ 31) (hy : y < 2 ^ 31) : (if nI y < nI x then nI y else nI x) = nI (min x y) := by
  by_cases h : y < x
  · rw [if_pos (nI_lt h hx)]
    congr 1
    omega
  · rw [if_neg (nI_nlt (by omega) hy)]
    congr 1
    omega
def sp_sum : List (List Int32) → Nat
  | [] => 0
  | r :: rs => r.length + sp_sum rs
theorem sp_sum_app (a b : List (List Int32)) : sp_sum (a ++ b) = sp_sum a + sp_sum b := by
  induction a with
  | nil => simp [sp_sum]
  | cons r rs ih => simp [sp_sum, ih]; omega
/-- the rows behind number() or part(), and the answer -/
def sp_numberOf (rows : List (List Int32)) (d : List Int32) : List (List Int32) × Int32 := match sp_fd d rows 1 with
  | some k => (rows, nI k)
  | none => if rows.length < 3000 ∧ d.length + sp_sum rows ≤ 20000 then (rows ++ [d], nI (rows.length + 1)) else (rows, -1)
theorem cn_sum {st : Nat → Int32} {ch : Nat → Int32} {rc : Nat} {S : Nat → Nat} (h : cn_S st rc S) : ∀ m, m ≤ rc → sp_sum (cn_rows ch S 1 m) = S (m + 1) := by
  intro m
  induction m with
  | zero => intro _; rw [cn_rows_0]; exact h.1.symm
  | succ m ih =>
    intro hm
    rw [cn_rows_snoc, sp_sum_app, ih (by omega)]
    have h1 := h.2.2.1 (m + 1) (by omega) hm
    simp only [sp_sum, cn_row, sp_len]
    rw [show 1 + m = m + 1 by omega]
    omega
theorem sp_fd_lt {d : List Int32} : ∀ (rows : List (List Int32)) (k j : Nat), sp_fd d rows k = some j → j < k + rows.length := by
  intro rows
  induction rows with
  | nil => intro k j h; simp [sp_fd] at h
  | cons r rs ih =>
    intro k j h
    rw [sp_fd] at h
    by_cases q : r = d
    · rw [if_pos q] at h; cases h; simp
    · rw [if_neg q] at h
      have := ih (k + 1) j h
      simp only [List.length_cons]; omega
theorem cn_nb_old {rows : List (List Int32)} {d : List Int32} {r : Int32} (h : r = sp_an (sp_fd d rows 1)) (hr : ¬ r = -1) : sp_numberOf rows d = (rows, r) := by
  unfold sp_numberOf
  cases hf : sp_fd d rows 1 with
  | none => rw [hf] at h; exact absurd h hr
  | some k => rw [hf] at h; rw [h]; rfl
theorem cn_an_none {rows : List (List Int32)} {d : List Int32} (hl : rows.length ≤ 3000) (h : sp_an (sp_fd d rows 1) = -1) : sp_fd d rows 1 = none := by
  cases hf : sp_fd d rows 1 with
  | none => rfl
  | some k =>
    rw [hf] at h
    have := sp_fd_lt rows 1 k hf
    exact absurd h (sp_ne1 (by omega))
theorem cn_nb_full {ch st : Nat → Int32} {rc : Nat} {S : Nat → Nat} {d : List Int32} {n2 : Nat} (hR : cn_S st rc S) (h : sp_an (sp_fd d (cn_rows ch S 1 rc) 1) = -1) (hd : ¬ (rc < 3000 ∧ n2 + S (rc + 1) ≤ 20000)) (hn : d.length = n2 := by exact sp_len _ _ _) : sp_numberOf (cn_rows ch S 1 rc) d = (cn_rows ch S 1 rc, -1) := by
  have hl := cn_rows_len ch S 1 rc
  have h0 := cn_an_none (by rw [hl]; exact hR.2.2.2.2) h
  unfold sp_numberOf
  rw [h0]
  show (if _ then _ else _) = _
  rw [if_neg (by rw [hl, cn_sum hR rc (Nat.le_refl _), hn]; exact hd)]
/-- the places of the rows with one more -/
def cn_S1 (S : Nat → Nat) (rc n2 : Nat) : Nat → Nat := fun k => if k = rc + 1 + 1 then S (rc + 1) + n2 else S k
theorem cn_S_add {st : Nat → Int32} {rc : Nat} {S : Nat → Nat} {n2 : Nat} (hR : cn_S st rc S) (h1 : rc < 3000) (h2 : n2 + S (rc + 1) ≤ 20000) : cn_S (upd st (rc + 1 + 1) (nI (S (rc + 1) + n2))) (rc + 1) (cn_S1 S rc n2) := by
  refine ⟨?_, ?_, ?_, ?_, by omega⟩
  · show (if 1 = rc + 1 + 1 then _ else S 1) = 0
    rw [if_neg (by omega)]; exact hR.1
  · intro k hk1 hk2
    by_cases q : k = rc + 1 + 1
    · subst q; rw [pk_us]; show _ = nI (if _ then _ else _); rw [if_pos rfl]
    · rw [pk_un q]; show _ = nI (if _ then _ else _); rw [if_neg q]; exact hR.2.1 k hk1 (by omega)
  · intro k hk1 hk2
    show (if k = rc + 1 + 1 then _ else S k) ≤ (if k + 1 = rc + 1 + 1 then _ else S (k + 1))
    rw [if_neg (by omega)]
    by_cases q : k + 1 = rc + 1 + 1
    · rw [if_pos q, show k = rc + 1 by omega]; omega
    · rw [if_neg q]; exact hR.2.2.1 k hk1 (by omega)
  · show (if rc + 1 + 1 = rc + 1 + 1 then _ else _) ≤ 20000
    rw [if_pos rfl]; omega
theorem cn_nb_new {ch st f : Nat → Int32} {rc : Nat} {S : Nat → Nat} {b0 n2 : Nat} (hR : cn_S st rc S) (h : sp_an (sp_fd (sp_sl f b0 n2) (cn_rows ch S 1 rc) 1) = -1) (h1 : rc < 3000) (h2 : n2 + S (rc + 1) ≤ 20000) : sp_numberOf (cn_rows ch S 1 rc) (sp_sl f b0 n2) = (cn_rows (va_cpy f ch b0 (S (rc + 1)) n2) (cn_S1 S rc n2) 1 (rc + 1), nI (rc + 1)) := by
  have hl := cn_rows_len ch S 1 rc
  have h0 := cn_an_none (by rw [hl]; exact hR.2.2.2.2) h
  unfold sp_numberOf
  rw [h0]
  show (if _ then _ else _) = _
  rw [if_pos (by rw [hl, cn_sum hR rc (Nat.le_refl _), sp_len]; exact ⟨h1, h2⟩), hl, cn_rows_snoc]
  have eA : cn_rows ch S 1 rc = cn_rows (va_cpy f ch b0 (S (rc + 1)) n2) (cn_S1 S rc n2) 1 rc := by
    apply cn_rows_ext
    intro i hi
    unfold cn_row cn_S1
    rw [if_neg (by omega), if_neg (by omega)]
    apply sp_ext
    intro x hx
    have := cn_mono hR (j := 1 + i + 1) (k := rc + 1) (by omega) (by omega) (Nat.le_refl _)
    rw [pk_cpy_out (Or.inl (by omega))]
  have eB : sp_sl f b0 n2 = cn_row (va_cpy f ch b0 (S (rc + 1)) n2) (cn_S1 S rc n2) (1 + rc) := by
    unfold cn_row cn_S1
    rw [if_neg (by omega), if_pos (by omega), show 1 + rc = rc + 1 by omega, show S (rc + 1) + n2 - S (rc + 1) = n2 by omega]
    apply sp_ext
    intro x hx
    rw [pk_cpy_in (by omega) (by omega)]
    congr 1
    omega
  rw [← eA, ← eB]
def sp_row (rows : List (List Int32)) (k : Int32) : Option (List Int32) := if k < 1 then none else rows[k.toNatClampNeg - 1]?
theorem cn_row_yes {ch st : Nat → Int32} {rc : Nat} {S : Nat → Nat} {k : Nat} (hR : cn_S st rc S) (h1 : 1 ≤ k) (h2 : k ≤ rc) : sp_row (cn_rows ch S 1 rc) (nI k) = some (cn_row ch S k) := by
  have h3 := hR.2.2.2.2
  unfold sp_row
  have h4 : ¬ nI k < (1 : Int32) := nI_nlt (b := 1) h1 (by omega)
  rw [if_neg h4, nI_clamp (by omega), cn_rows_get (by omega)]
  congr 2
  omega
theorem cn_row_no {ch st : Nat → Int32} {rc : Nat} {S : Nat → Nat} {k : Int32} (hR : cn_S st rc S) (h : ¬ cn_is rc k) : sp_row (cn_rows ch S 1 rc) k = none := by
  have h3 := hR.2.2.2.2
  unfold sp_row
  by_cases q : k < 1
  · rw [if_pos q]
  · rw [if_neg q]
    have h0 : ¬ k < 0 := by
      intro z
      apply q
      rw [Int32.lt_iff_toInt_lt] at z ⊢
      have e1 : (1 : Int32).toInt = 1 := by decide
      have e0 : (0 : Int32).toInt = 0 := by decide
      omega
    obtain ⟨j, hj, rfl⟩ := nI_of h0
    rw [nI_clamp hj]
    apply List.getElem?_eq_none
    rw [cn_rows_len]
    rcases Nat.lt_or_ge (j - 1) rc with z | z
    · exfalso
      have hj1 : 1 ≤ j := by
        rcases Nat.lt_or_ge j 1 with y | y
        · exact absurd (show nI j < nI 1 from nI_lt y (by decide)) q
        · exact y
      exact h ⟨j, hj1, by omega, rfl⟩
    · exact z
def sp_length (rows : List (List Int32)) (k : Int32) : Int32 := match sp_row rows k with
  | some r => nI r.length
  | none => -1
def sp_sign (rows : List (List Int32)) (k i : Int32) : Int32 := match sp_row rows k with
  | some r => if i < 0 then -1 else r.getD i.toNatClampNeg (-1)
  | none => -1
theorem cn_sg_hi {ch : Nat → Int32} {S : Nat → Nat} {k x : Nat} (hx : x < 2 ^ 31) (h : S (k + 1) - S k ≤ x) : (-1 : Int32) = if nI x < 0 then -1 else (cn_row ch S k).getD (nI x).toNatClampNeg (-1) := by
  rw [if_neg (nI_pos hx), nI_clamp hx, List.getD_eq_getElem?_getD, List.getElem?_eq_none (by rw [cn_row, sp_len]; exact h)]
  rfl
theorem cn_sg_in {ch : Nat → Int32} {S : Nat → Nat} {k x : Nat} (hx : x < 2 ^ 31) (h : x < S (k + 1) - S k) : ch (S k + x) = if nI x < 0 then -1 else (cn_row ch S k).getD (nI x).toNatClampNeg (-1) := by
  rw [if_neg (nI_pos hx), nI_clamp hx, List.getD_eq_getElem?_getD, cn_row, sp_get h]
  rfl
def sp_compare (rows : List (List Int32)) (a b : Int32) : Int32 := match sp_row rows a with
  | none => -2
  | some x => match sp_row rows b with
    | none => -2
    | some y => sp_cmp x y
def sp_known (rows : List (List Int32)) (d : List Int32) : Int32 := match sp_fd d rows 1 with
  | some _ => 1
  | none => 0
theorem cn_known_1 {rows : List (List Int32)} {d : List Int32} {r : Int32} (hr : ¬ r = -1) (h : r = sp_an (sp_fd d rows 1)) : nI 1 = sp_known rows d := by
  unfold sp_known
  cases hf : sp_fd d rows 1 with
  | none => rw [hf] at h; exact absurd h hr
  | some k => rfl
theorem cn_known_0 {ch st : Nat → Int32} {rc : Nat} {S : Nat → Nat} {d : List Int32} {r : Int32} (hR : cn_S st rc S) (hr : r = -1) (h : r = sp_an (sp_fd d (cn_rows ch S 1 rc) 1)) : nI 0 = sp_known (cn_rows ch S 1 rc) d := by
  have h0 := cn_an_none (by rw [cn_rows_len]; exact hR.2.2.2.2) (h.symm.trans hr)
  unfold sp_known
  rw [h0]
  rfl
def sp_cut (d : List Int32) (k : Int32) : List Int32 × Int32 := if k < 0 ∨ nI d.length < k then (d, -1) else (d.take k.toNatClampNeg, nI d.length)
def sp_take_ (rows : List (List Int32)) (d : List Int32) (k : Int32) : List Int32 × Int32 := match sp_row rows k with
  | none => (d, -1)
  | some r => if 2000 < d.length + r.length then (d, -1) else (d ++ r, nI (d.length + r.length))
def sp_part (rows : List (List Int32)) (k i n : Int32) : List (List Int32) × Int32 := match sp_row rows k with
  | none => (rows, -1)
  | some r => if i < 0 ∨ nI r.length < i ∨ n < 0 ∨ nI (r.length - i.toNatClampNeg) < n then (rows, -1) else sp_numberOf rows ((r.drop i.toNatClampNeg).take n.toNatClampNeg)
def sp_write (d : List Int32) (c many : Int32) : List Int32 × Int32 := if many < 0 ∨ nI 500 < many ∨ c < 0 ∨ nI (1114111 - many.toNatClampNeg) < c ∨ 2000 < d.length + many.toNatClampNeg + 1 then (d, -1) else (d ++ sp_sl (fun i => nI (c.toNatClampNeg + i)) 0 (many.toNatClampNeg + 1), nI (d.length + many.toNatClampNeg + 1))
theorem cn_not_lt {a b : Nat} (h : a ≤ b) (hb : b < 2 ^ 31) : ¬ nI b < nI a := nI_nlt h hb
theorem cn_cut_no {d : List Int32} {k : Int32} (h : k < 0 ∨ nI d.length < k) : sp_cut d k = (d, -1) := if_pos h
theorem cn_cut_yes {d : List Int32} {x : Nat} (h : x ≤ d.length) (hl : d.length < 2 ^ 31) : sp_cut d (nI x) = (d.take x, nI d.length) := by
  unfold sp_cut
  rw [if_neg (fun z => z.elim (fun q => nI_pos (by omega) q) (fun q => nI_nlt h hl q)), nI_clamp (by omega)]
theorem cn_S_0 {st : Nat → Int32} {rc : Nat} {S : Nat → Nat} (h : cn_S st rc S) : cn_S st 0 S := by
  refine ⟨h.1, fun k h1 h2 => h.2.1 k h1 (by omega), fun k h1 h2 => absurd h1 (by omega), ?_, by omega⟩
  show S 1 ≤ 20000
  rw [h.1]
  omega
theorem cn_tk {dr ch : Nat → Int32} {S : Nat → Nat} {n k : Nat} : sp_sl dr 0 n ++ cn_row ch S k = sp_sl (va_cpy ch dr (S k) n (S (k + 1) - S k)) 0 (n + (S (k + 1) - S k)) := by
  rw [sp_app]
  congr 1
  · apply sp_ext
    intro i hi
    rw [pk_cpy_out (Or.inl (by omega))]
  · unfold cn_row
    apply sp_ext
    intro i hi
    rw [pk_cpy_in (by omega) (by omega)]
    congr 1
    omega
theorem cn_pt_no {ch : Nat → Int32} {S : Nat → Nat} {k x y : Nat} (h1 : ¬ nI x < 0) (h2 : ¬ nI y < 0) (hx : x < 2 ^ 31) (hy : y < 2 ^ 31) (h3 : x ≤ S (k + 1) - S k) (h4 : y ≤ S (k + 1) - S k - x) (h5 : S (k + 1) - S k < 2 ^ 31) : ¬ (nI x < 0 ∨ nI (cn_row ch S k).length < nI x ∨ nI y < 0 ∨ nI ((cn_row ch S k).length - (nI x).toNatClampNeg) < nI y) := by
  rw [cn_row, sp_len, nI_clamp hx]
  rintro (q | q | q | q)
  · exact h1 q
  · exact nI_nlt h3 h5 q
  · exact h2 q
  · exact nI_nlt h4 (by omega) q
theorem cn_pt_row {ch : Nat → Int32} {S : Nat → Nat} {k x y : Nat} (hx : x < 2 ^ 31) (hy : y < 2 ^ 31) (h3 : x ≤ S (k + 1) - S k) (h4 : y ≤ S (k + 1) - S k - x) : ((cn_row ch S k).drop (nI x).toNatClampNeg).take (nI y).toNatClampNeg = sp_sl ch (S k + x) y := by
  rw [nI_clamp hx, nI_clamp hy, cn_row, sp_drop _ _ _ _ h3, sp_take _ _ _ _ h4]
theorem cn_wr_no {d : List Int32} {c many : Int32} (h : many < 0 ∨ nI 500 < many ∨ c < 0 ∨ nI (1114111 - many.toNatClampNeg) < c ∨ 2000 < d.length + many.toNatClampNeg + 1) : sp_write d c many = (d, -1) := if_pos h
theorem cn_wr_yes {dr f : Nat → Int32} {n x y : Nat} (h1 : ¬ nI y < 0) (h2 : ¬ nI x < 0) (h3 : y ≤ 500) (h4 : x ≤ 1114111 - y) (h5 : n + y + 1 ≤ 2000) (i1 : ∀ z, z < n → f z = dr z) (i2 : ∀ z, z < y + 1 → f (n + z) = nI (x + z)) : sp_write (sp_sl dr 0 n) (nI x) (nI y) = (sp_sl f 0 (n + (y + 1)), nI (n + (y + 1))) := by
  have ex : (nI x).toNatClampNeg = x := nI_clamp (by omega)
  have ey : (nI y).toNatClampNeg = y := nI_clamp (by omega)
  unfold sp_write
  rw [ex, ey, sp_len, if_neg (by
    rintro (q | q | q | q | q)
    · exact h1 q
    · exact nI_nlt h3 (by decide) q
    · exact h2 q
    · exact nI_nlt h4 (by omega) q
    · omega)]
  rw [sp_app f 0 n (y + 1)]
  congr 2
  · apply sp_ext
    intro i hi
    rw [Nat.zero_add]
    exact (i1 i hi).symm
  · apply sp_ext
    intro i hi
    rw [Nat.zero_add, Nat.zero_add]
    exact (i2 i hi).symm
theorem sp_nI0 {b : Nat} (h : b < 2 ^ 31) (q : nI b = 0) : b = 0 := (nI_eq h (by decide)).mp (q.trans nI_0.symm)
/-- the number of the least row greater than r: the rows still to be looked at, the number of their first, the best so far -/
def sp_nx (rows : List (List Int32)) (r : List Int32) : List (List Int32) → Nat → Nat → Nat
  | [], _, b => b
  | o :: os, k, b => sp_nx rows r os (k + 1) (if ¬ sp_cmp o r ≤ 0 ∧ (b = 0 ∨ ¬ 0 ≤ sp_cmp o (rows.getD (b - 1) [])) then k else b)
def sp_next (rows : List (List Int32)) (k : Int32) : Int32 := match sp_row rows k with
  | none => -1
  | some r => nI (sp_nx rows r rows 1 0)
section NX
variable {F : Nat} {r : List Int32} {ch : Nat → Int32} {S : Nat → Nat} {o b rc : Nat} {rows : List (List Int32)}
theorem cn_nx_end (hk : rc < o) (hinv : F = sp_nx rows r (cn_rows ch S o (rc + 1 - o)) o b) : F = b := by
  rw [hinv, show rc + 1 - o = 0 by omega, cn_rows_0]
  rfl
theorem cn_nx_st (hk : o ≤ rc) (hinv : F = sp_nx rows r (cn_rows ch S o (rc + 1 - o)) o b) : F = sp_nx rows r (cn_rows ch S (o + 1) (rc + 1 - (o + 1))) (o + 1) (if ¬ sp_cmp (cn_row ch S o) r ≤ 0 ∧ (b = 0 ∨ ¬ 0 ≤ sp_cmp (cn_row ch S o) (rows.getD (b - 1) [])) then o else b) := by
  rw [hinv, show rc + 1 - o = (rc - o) + 1 by omega, cn_rows_cons, sp_nx, show rc + 1 - (o + 1) = rc - o by omega]
theorem cn_rows_d (h1 : 1 ≤ b) (h2 : b ≤ rc) : (cn_rows ch S 1 rc).getD (b - 1) [] = cn_row ch S b := by
  rw [List.getD_eq_getElem?_getD, cn_rows_get (by omega), show 1 + (b - 1) = b by omega]
  rfl
theorem cn_nx_a (hk : o ≤ rc) (hinv : F = sp_nx rows r (cn_rows ch S o (rc + 1 - o)) o b) (h : sp_cmp (cn_row ch S o) r ≤ 0) : F = sp_nx rows r (cn_rows ch S (o + 1) (rc + 1 - (o + 1))) (o + 1) b := by
  have := cn_nx_st hk hinv
  rwa [if_neg (fun q => q.1 h)] at this
theorem cn_nx_b (hk : o ≤ rc) (hinv : F = sp_nx (cn_rows ch S 1 rc) r (cn_rows ch S o (rc + 1 - o)) o b) (h1 : 1 ≤ b) (h2 : b ≤ rc) (h : 0 ≤ sp_cmp (cn_row ch S o) (cn_row ch S b)) : F = sp_nx (cn_rows ch S 1 rc) r (cn_rows ch S (o + 1) (rc + 1 - (o + 1))) (o + 1) b := by
  have := cn_nx_st hk hinv
  rwa [if_neg (fun z => z.2.elim (fun q => by omega) (fun q => by rw [cn_rows_d h1 h2] at q; exact q h))] at this
theorem cn_nx_c (hk : o ≤ rc) (hinv : F = sp_nx rows r (cn_rows ch S o (rc + 1 - o)) o b) (h : ¬ sp_cmp (cn_row ch S o) r ≤ 0) (hb : b = 0) : F = sp_nx rows r (cn_rows ch S (o + 1) (rc + 1 - (o + 1))) (o + 1) o := by
  have := cn_nx_st hk hinv
  rwa [if_pos ⟨h, Or.inl hb⟩] at this
theorem cn_nx_d (hk : o ≤ rc) (hinv : F = sp_nx (cn_rows ch S 1 rc) r (cn_rows ch S o (rc + 1 - o)) o b) (h : ¬ sp_cmp (cn_row ch S o) r ≤ 0) (h1 : 1 ≤ b) (h2 : b ≤ rc) (h3 : ¬ 0 ≤ sp_cmp (cn_row ch S o) (cn_row ch S b)) : F = sp_nx (cn_rows ch S 1 rc) r (cn_rows ch S (o + 1) (rc + 1 - (o + 1))) (o + 1) o := by
  have := cn_nx_st hk hinv
  rwa [if_pos ⟨h, Or.inr (by rw [cn_rows_d h1 h2]; exact h3)⟩] at this
end NX
/-- the place of the first colon, or the length -/
def sp_ix : List Int32 → Nat
  | [] => 0
  | x :: xs => if x = nI 58 then 0 else sp_ix xs + 1
theorem cn_ix {f : Nat → Int32} : ∀ (q a n : Nat), q ≤ n → (∀ i, i < q → f (a + i) ≠ nI 58) → (q < n → f (a + q) = nI 58) → sp_ix (sp_sl f a n) = q := by
  intro q
  induction q with
  | zero =>
    intro a n _ _ h
    cases n with
    | zero => rfl
    | succ n => rw [sp_cons, sp_ix, if_pos (show f a = nI 58 from h (by omega))]
  | succ q ih =>
    intro a n hq h1 h2
    obtain ⟨n, rfl⟩ : ∃ z, n = z + 1 := ⟨n - 1, by omega⟩
    have e1 : ∀ z c : Nat, c + (z + 1) = c + 1 + z := fun z c => by omega
    rw [sp_cons, sp_ix, if_neg (show ¬ f a = nI 58 from h1 0 (by omega)), ih (a + 1) n (by omega) (fun i hi => by rw [← e1]; exact h1 (i + 1) (by omega)) (fun hi => by rw [← e1]; exact h2 (by omega))]
theorem cn_fc_hit {ch : Nat → Int32} {a i z : Nat} (h1 : a ≤ i) (h2 : i < z) (hinv : ∀ x, a ≤ x → x < i → ch x ≠ nI 58) (h : ch i = nI 58) : nI i = nI (a + sp_ix (sp_sl ch a (z - a))) := by
  rw [cn_ix (i - a) a (z - a) (by omega) (fun x hx => hinv (a + x) (by omega) (by omega)) (fun _ => by rw [show a + (i - a) = i by omega]; exact h)]
  congr 1
  omega
theorem cn_fc_end {ch : Nat → Int32} {a z : Nat} (h1 : a ≤ z) (hinv : ∀ x, a ≤ x → x < z → ch x ≠ nI 58) : nI z = nI (a + sp_ix (sp_sl ch a (z - a))) := by
  rw [cn_ix (z - a) a (z - a) (by omega) (fun x hx => hinv (a + x) (by omega) (by omega)) (fun q => absurd q (by omega))]
  congr 1
  omega
theorem sp_ix_le : ∀ (r : List Int32), sp_ix r ≤ r.length := by
  intro r
  induction r with
  | nil => exact Nat.le_refl _
  | cons x xs ih =>
    rw [sp_ix]
    split
    · exact Nat.zero_le _
    · simp only [List.length_cons]; omega
/-- the table of the name starts -/
def sp_tb : List Int32 := [58, 58, 65, 90, 95, 95, 97, 122, 192, 214, 216, 246, 248, 767, 880, 893, 895, 8191, 8204, 8205, 8304, 8591, 11264, 12271, 12289, 55295, 63744, 64975, 65008, 65533, 65536, 983039]
/-- is c in one of the stretches (first, last) from place i on, m of them -/
def sp_in (c : Int32) : Nat → Nat → Bool
  | _, 0 => false
  | t, m + 1 => (decide (sp_tb.getD (2 * t) 0 ≤ c) && decide (c ≤ sp_tb.getD (2 * t + 1) 0)) || sp_in c (t + 1) m
def sp_ns (c : Int32) : Bool := sp_in c 0 16
def sp_colonR (r : List Int32) : Int32 := if sp_ix r = r.length then 0 else if sp_ix (r.drop (sp_ix r + 1)) = r.length - (sp_ix r + 1) ∧ 0 < sp_ix r ∧ sp_ix r + 1 < r.length ∧ sp_ns (r.getD (sp_ix r + 1) 0) = true then nI (sp_ix r) else -1
def sp_colon (rows : List (List Int32)) (k : Int32) : Int32 := match sp_row rows k with
  | none => -2
  | some r => sp_colonR r
theorem cn_ns_yes {B : Bool} {c : Int32} {v : Nat} (hv : v < 16) (hinv : B = sp_in c v (16 - v)) (h1 : ¬ c < sp_tb.getD (2 * v) 0) (h2 : ¬ sp_tb.getD (2 * v + 1) 0 < c) : B = true := by
  rw [hinv, show 16 - v = (15 - v) + 1 by omega, sp_in]
  rw [decide_eq_true (Int32.not_lt.mp h1), decide_eq_true (Int32.not_lt.mp h2)]
  rfl
theorem cn_ns_lo {B : Bool} {c : Int32} {v : Nat} (hv : v < 16) (hinv : B = sp_in c v (16 - v)) (h1 : c < sp_tb.getD (2 * v) 0) : B = sp_in c (v + 1) (16 - (v + 1)) := by
  rw [hinv, show 16 - v = (15 - v) + 1 by omega, sp_in, show 16 - (v + 1) = 15 - v by omega, decide_eq_false (Int32.not_le.mpr h1)]
  simp
theorem cn_ns_hi {B : Bool} {c : Int32} {v : Nat} (hv : v < 16) (hinv : B = sp_in c v (16 - v)) (h1 : sp_tb.getD (2 * v + 1) 0 < c) : B = sp_in c (v + 1) (16 - (v + 1)) := by
  rw [hinv, show 16 - v = (15 - v) + 1 by omega, sp_in, show 16 - (v + 1) = 15 - v by omega, decide_eq_false (Int32.not_le.mpr h1)]
  simp
section CO
variable {ch : Nat → Int32} {S : Nat → Nat} {k P P2 : Nat}
theorem cn_co_ix (eP : P = sp_ix (sp_sl ch (S k) (S (k + 1) - S k))) : sp_ix (cn_row ch S k) = P := eP.symm
theorem cn_co_len : (cn_row ch S k).length = S (k + 1) - S k := by rw [cn_row, sp_len]
theorem cn_co_0 (eP : P = sp_ix (sp_sl ch (S k) (S (k + 1) - S k))) (h : P = S (k + 1) - S k) : nI 0 = sp_colonR (cn_row ch S k) := by
  unfold sp_colonR
  rw [cn_co_ix eP, cn_co_len, if_pos h]
  rfl
theorem cn_co_drop (h : P < S (k + 1) - S k) : (cn_row ch S k).drop (P + 1) = sp_sl ch (S k + P + 1) (S (k + 1) - (S k + P + 1)) := by
  rw [cn_row, sp_drop _ _ _ _ (by omega)]
  congr 1
  omega
theorem cn_co_at (h : P + 1 < S (k + 1) - S k) : (cn_row ch S k).getD (P + 1) 0 = ch (S k + P + 1) := by
  rw [List.getD_eq_getElem?_getD, cn_row, sp_get h]
  rfl
theorem cn_co_yes (eP : P = sp_ix (sp_sl ch (S k) (S (k + 1) - S k))) (eP2 : P2 = sp_ix (sp_sl ch (S k + P + 1) (S (k + 1) - (S k + P + 1)))) (h1 : P < S (k + 1) - S k) (h2 : P2 = S (k + 1) - (S k + P + 1)) (h3 : 0 < P) (h4 : P + 1 < S (k + 1) - S k) (hns : sp_ns (ch (S k + P + 1)) = true) : nI (S k + P - S k) = sp_colonR (cn_row ch S k) := by
  unfold sp_colonR
  rw [cn_co_ix eP, cn_co_len, if_neg (by omega), cn_co_drop h1, ← eP2, cn_co_at h4, if_pos ⟨by omega, h3, h4, hns⟩]
  congr 1
  omega
theorem cn_co_no1 (eP : P = sp_ix (sp_sl ch (S k) (S (k + 1) - S k))) (eP2 : P2 = sp_ix (sp_sl ch (S k + P + 1) (S (k + 1) - (S k + P + 1)))) (h1 : P < S (k + 1) - S k) (h2 : ¬ P2 = S (k + 1) - (S k + P + 1)) (hx : True := trivial) : (-1 : Int32) = sp_colonR (cn_row ch S k) := by
  unfold sp_colonR
  rw [cn_co_ix eP, cn_co_len, if_neg (by omega), cn_co_drop h1, ← eP2, if_neg (by rintro ⟨q, -⟩; omega)]
theorem cn_co_no2 (eP : P = sp_ix (sp_sl ch (S k) (S (k + 1) - S k))) (h1 : P < S (k + 1) - S k) (h2 : ¬ (0 < P ∧ P + 1 < S (k + 1) - S k)) (hx : True := trivial) : (-1 : Int32) = sp_colonR (cn_row ch S k) := by
  unfold sp_colonR
  rw [cn_co_ix eP, cn_co_len, if_neg (by omega), if_neg (by rintro ⟨-, q1, q2, -⟩; exact h2 ⟨q1, q2⟩)]
theorem cn_co_no3 (eP : P = sp_ix (sp_sl ch (S k) (S (k + 1) - S k))) (h1 : P + 1 < S (k + 1) - S k) (hns : sp_ns (ch (S k + P + 1)) = false) : (-1 : Int32) = sp_colonR (cn_row ch S k) := by
  unfold sp_colonR
  rw [cn_co_ix eP, cn_co_len, if_neg (by omega), cn_co_at h1, if_neg (by rintro ⟨-, -, -, q⟩; rw [hns] at q; exact Bool.noConfusion q)]
end CO
