set_option maxHeartbeats 4000000 in
set_option maxRecDepth 100000 in
/-- cut -/
theorem km_cut (l : Launch) (D : va_G) {tys : List (ClassId × FieldType)} {cI : ClassId} (hty : tys[0]? = some (cI, .int)) (m0 ms mt ml md mk : Nat) (wr : va_W) (sg ta le dr so : Nat → Int32) (us rc n sn : Nat) (A : Nat → Prop) (S : Nat → Nat) (hM : md_S ta le us rc S) (hn : n ≤ 2000) (hsn : sn ≤ 20000) (k : Int32) : Met l yX1_cut wsX1_cut ({ frames := 0, cells := 0, slots := 0, locals := 0 }) (mu_Pc D vwCl (md_W cI m0 ms mt ml md mk wr sg ta le dr so us rc n sn) tys A [.ref m0, .int k]) (va_Qi (fun r w => md_Ok cI (md_W cI m0 ms mt ml md mk wr) (sp_cut (sp_sl dr 0 n) k).1 (cn_rows sg S 1 rc) w ∧ r = (sp_cut (sp_sl dr 0 n) k).2) (mu_B D vwCl tys A) A) 0 0 A := by
  refine mu_of (cc := cX1_cut) (maxL := 3) (ret := some .int) (own := RX1) (by decide) rfl rfl (Nat.le_of_ble_eq_true rfl) ?_
  intro p e s m below meth c hx hb hr hts hown hlocks hml hP hK hD hS ls hl
  have hl : lv_has ls 3 [(0, .ref m0), (1, .int k)] := hl
  have hin1 : ∀ w ∈ u_ws RX1 TX1 9, w ∈ wsX1_cut := by decide +kernel
  have f26 := hts (.fieldLink RX1 26 "NameNumbersModel" "written" "I") (by decide +kernel)
  have hP : va_P D vwCl (md_W cI m0 ms mt ml md mk wr sg ta le dr so us rc n sn) s.heap := hP
  refine lv_iload_n hx hb dX1_cut_0 rfl (lv_at hl 1 rfl) ?_
  refine lv_if_lt (tgt := 12) hx hb dX1_cut_1 (by decide) (fun c_1 => ?_) (fun c_1 => ?_)
  · refine lv_iconst (v := (-1)) hx hb dX1_cut_12 (by decide) ?_
    exact mu_iret hx hb hr hlocks hP hK hD hS (by rw [cn_cut_no (by first | exact Or.inl c_1 | (right; rw [sp_len]; exact nI_lt c_9 hx31))]; exact ⟨⟨sg, ta, le, dr, so, us, rc, n, sn, S, rfl, hn, hsn, hM, rfl, rfl⟩, rfl⟩) dX1_cut_13
  · obtain ⟨x, hx31, rfl⟩ := nI_of c_1
    refine lv_iload_n hx hb dX1_cut_4 rfl (lv_at hl 1 rfl) ?_
    refine lv_aload_n hx hb dX1_cut_5 rfl (lv_at hl 0 rfl) ?_
    refine va_get (D := D) (ci := 1) (v := .int (nI n)) (C := RX1) (T := TX1) (N := 9) hx hb hts hin1 hown hK hP 0 rfl rfl 6 (by decide) f26 (fun _ h9 => h9) rfl dX1_cut_6 ?_
    refine rn_icmp_le (tgt := 14) hx hb (by omega) (by omega) dX1_cut_9 (by decide) (fun c_9 => ?_) (fun c_9 => ?_)
    · refine lv_aload_n hx hb dX1_cut_14 rfl (lv_at hl 0 rfl) ?_
      refine va_get (D := D) (ci := 1) (v := .int (nI n)) (C := RX1) (T := TX1) (N := 9) hx hb hts hin1 hown hK hP 0 rfl rfl 6 (by decide) f26 (fun _ h9 => h9) rfl dX1_cut_15 ?_
      refine lv_istore_n (lv' := [(2, .int (nI n)), (0, .ref m0), (1, .int (nI x))]) hx hb dX1_cut_18 rfl hl (by decide) rfl (fun ls hl => ?_)
      refine lv_aload_n hx hb dX1_cut_19 rfl (lv_at hl 1 rfl) ?_
      refine lv_iload_n hx hb dX1_cut_20 rfl (lv_at hl 2 rfl) ?_
      refine va_put (D := D) (ci := 1) (v := .int (nI x)) (ty := .int) (C := RX1) (T := TX1) (N := 9) hx hb hts hin1 tyX1 tyX1_ok nmX1 hown hK hP hD hS 0 rfl rfl 6 (by decide) f26 (fun _ h9 => h9) rfl (by decide +kernel) rfl rfl (Nat.le_of_ble_eq_true rfl) dX1_cut_21 (fun H locs hP hD hS => ?_)
      have hP : va_P D vwCl ((m0, .inr (1, [.ref ms, .int (nI us), .ref mt, .ref ml, .int (nI rc), .ref md, .int (nI x), .ref mk, .int (nI sn)])) :: (ms, .inl (cI, 20000, .inl sg)) :: (mt, .inl (cI, 3001, .inl ta)) :: (ml, .inl (cI, 3001, .inl le)) :: (md, .inl (cI, 2000, .inl dr)) :: (mk, .inl (cI, 20000, .inl so)) :: wr) H := hP
      have hD : va_D A ((m0, .inr (1, [.ref ms, .int (nI us), .ref mt, .ref ml, .int (nI rc), .ref md, .int (nI x), .ref mk, .int (nI sn)])) :: (ms, .inl (cI, 20000, .inl sg)) :: (mt, .inl (cI, 3001, .inl ta)) :: (ml, .inl (cI, 3001, .inl le)) :: (md, .inl (cI, 2000, .inl dr)) :: (mk, .inl (cI, 20000, .inl so)) :: wr) := hD
      refine lv_iload_n hx hb dX1_cut_24 rfl (lv_at hl 0 rfl) ?_
      exact mu_iret hx hb hr hlocks hP hK hD hS (by rw [cn_cut_yes (by rw [sp_len]; exact c_9) (by rw [sp_len]; omega), sp_take _ _ _ _ c_9, sp_len]; exact ⟨⟨sg, ta, le, dr, so, us, rc, x, sn, S, rfl, by omega, hsn, hM, rfl, rfl⟩, rfl⟩) dX1_cut_25
    · refine lv_iconst (v := (-1)) hx hb dX1_cut_12 (by decide) ?_
      exact mu_iret hx hb hr hlocks hP hK hD hS (by rw [cn_cut_no (by first | exact Or.inl c_1 | (right; rw [sp_len]; exact nI_lt c_9 hx31))]; exact ⟨⟨sg, ta, le, dr, so, us, rc, n, sn, S, rfl, hn, hsn, hM, rfl, rfl⟩, rfl⟩) dX1_cut_13
set_option maxHeartbeats 4000000 in
set_option maxRecDepth 100000 in
/-- clear -/
theorem km_clear (l : Launch) (D : va_G) {tys : List (ClassId × FieldType)} {cI : ClassId} (hty : tys[0]? = some (cI, .int)) (m0 ms mt ml md mk : Nat) (wr : va_W) (sg ta le dr so : Nat → Int32) (us rc n sn : Nat) (A : Nat → Prop) (S : Nat → Nat) (hM : md_S ta le us rc S) (hn : n ≤ 2000) (hsn : sn ≤ 20000) : Met l yX1_clear wsX1_clear ({ frames := 0, cells := 0, slots := 0, locals := 0 }) (mu_Pc D vwCl (md_W cI m0 ms mt ml md mk wr sg ta le dr so us rc n sn) tys A [.ref m0]) (va_Qi (fun r w => md_Ok cI (md_W cI m0 ms mt ml md mk wr) (sp_sl dr 0 n) [] w ∧ r = nI (cn_rows sg S 1 rc).length) (mu_B D vwCl tys A) A) 0 0 A := by
  refine mu_of (cc := cX1_clear) (maxL := 2) (ret := some .int) (own := RX1) (by decide) rfl rfl (Nat.le_of_ble_eq_true rfl) ?_
  intro p e s m below meth c hx hb hr hts hown hlocks hml hP hK hD hS ls hl
  have hl : lv_has ls 2 [(0, .ref m0)] := hl
  have hin1 : ∀ w ∈ u_ws RX1 TX1 9, w ∈ wsX1_clear := by decide +kernel
  have f30 := hts (.fieldLink RX1 30 "NameNumbersModel" "rows" "I") (by decide +kernel)
  have f40 := hts (.fieldLink RX1 40 "NameNumbersModel" "used" "I") (by decide +kernel)
  have hP : va_P D vwCl (md_W cI m0 ms mt ml md mk wr sg ta le dr so us rc n sn) s.heap := hP
  refine lv_aload_n hx hb dX1_clear_0 rfl (lv_at hl 0 rfl) ?_
  refine va_get (D := D) (ci := 1) (v := .int (nI rc)) (C := RX1) (T := TX1) (N := 9) hx hb hts hin1 hown hK hP 0 rfl rfl 4 (by decide) f30 (fun _ h9 => h9) rfl dX1_clear_1 ?_
  refine lv_istore_n (lv' := [(1, .int (nI rc)), (0, .ref m0)]) hx hb dX1_clear_4 rfl hl (by decide) rfl (fun ls hl => ?_)
  refine lv_aload_n hx hb dX1_clear_5 rfl (lv_at hl 1 rfl) ?_
  refine lv_iconst (v := nI 0) hx hb dX1_clear_6 (by decide) ?_
  refine va_put (D := D) (ci := 1) (v := .int (nI 0)) (ty := .int) (C := RX1) (T := TX1) (N := 9) hx hb hts hin1 tyX1 tyX1_ok nmX1 hown hK hP hD hS 0 rfl rfl 4 (by decide) f30 (fun _ h9 => h9) rfl (by decide +kernel) rfl rfl (Nat.le_of_ble_eq_true rfl) dX1_clear_7 (fun H locs hP hD hS => ?_)
  have hP : va_P D vwCl ((m0, .inr (1, [.ref ms, .int (nI us), .ref mt, .ref ml, .int (nI 0), .ref md, .int (nI n), .ref mk, .int (nI sn)])) :: (ms, .inl (cI, 20000, .inl sg)) :: (mt, .inl (cI, 3001, .inl ta)) :: (ml, .inl (cI, 3001, .inl le)) :: (md, .inl (cI, 2000, .inl dr)) :: (mk, .inl (cI, 20000, .inl so)) :: wr) H := hP
  have hD : va_D A ((m0, .inr (1, [.ref ms, .int (nI us), .ref mt, .ref ml, .int (nI 0), .ref md, .int (nI n), .ref mk, .int (nI sn)])) :: (ms, .inl (cI, 20000, .inl sg)) :: (mt, .inl (cI, 3001, .inl ta)) :: (ml, .inl (cI, 3001, .inl le)) :: (md, .inl (cI, 2000, .inl dr)) :: (mk, .inl (cI, 20000, .inl so)) :: wr) := hD
  refine lv_aload_n hx hb dX1_clear_10 rfl (lv_at hl 1 rfl) ?_
  refine lv_iconst (v := nI 0) hx hb dX1_clear_11 (by decide) ?_
  refine va_put (D := D) (ci := 1) (v := .int (nI 0)) (ty := .int) (C := RX1) (T := TX1) (N := 9) hx hb hts hin1 tyX1 tyX1_ok nmX1 hown hK hP hD hS 0 rfl rfl 1 (by decide) f40 (fun _ h9 => h9) rfl (by decide +kernel) rfl rfl (Nat.le_of_ble_eq_true rfl) dX1_clear_12 (fun H locs hP hD hS => ?_)
  have hP : va_P D vwCl ((m0, .inr (1, [.ref ms, .int (nI 0), .ref mt, .ref ml, .int (nI 0), .ref md, .int (nI n), .ref mk, .int (nI sn)])) :: (ms, .inl (cI, 20000, .inl sg)) :: (mt, .inl (cI, 3001, .inl ta)) :: (ml, .inl (cI, 3001, .inl le)) :: (md, .inl (cI, 2000, .inl dr)) :: (mk, .inl (cI, 20000, .inl so)) :: wr) H := hP
  have hD : va_D A ((m0, .inr (1, [.ref ms, .int (nI 0), .ref mt, .ref ml, .int (nI 0), .ref md, .int (nI n), .ref mk, .int (nI sn)])) :: (ms, .inl (cI, 20000, .inl sg)) :: (mt, .inl (cI, 3001, .inl ta)) :: (ml, .inl (cI, 3001, .inl le)) :: (md, .inl (cI, 2000, .inl dr)) :: (mk, .inl (cI, 20000, .inl so)) :: wr) := hD
  refine lv_iload_n hx hb dX1_clear_15 rfl (lv_at hl 0 rfl) ?_
  exact mu_iret hx hb hr hlocks hP hK hD hS (⟨⟨sg, ta, le, dr, so, 0, 0, n, sn, S, rfl, hn, hsn, md_S_0 hM, rfl, rfl⟩, by rw [cn_rows_len]⟩) dX1_clear_16
set_option maxHeartbeats 4000000 in
set_option maxRecDepth 100000 in
/-- seekDraft -/
theorem km_seekDraft (l : Launch) (D : va_G) {tys : List (ClassId × FieldType)} {cI : ClassId} (hty : tys[0]? = some (cI, .int)) (m0 ms mt ml md mk : Nat) (wr : va_W) (sg ta le dr so : Nat → Int32) (us rc n sn : Nat) (A : Nat → Prop) (hn : n ≤ 2000) : Met l yX1_seekDraft wsX1_seekDraft ({ frames := 0, cells := 0, slots := 0, locals := 0 }) (mu_Pc D vwCl (md_W cI m0 ms mt ml md mk wr sg ta le dr so us rc n sn) tys A [.ref m0]) (va_Qv (fun w => ∃ so' : Nat → Int32, w = md_W cI m0 ms mt ml md mk wr sg ta le dr so' us rc n n ∧ sp_sl so' 0 n = sp_sl dr 0 n) (mu_B D vwCl tys A) A) 0 0 A := by
  refine mv_of (cc := cX1_seekDraft) (maxL := 2) (own := RX1) (by decide) rfl rfl (Nat.le_of_ble_eq_true rfl) ?_
  intro p e s m below meth c hx hb hr hts hown hlocks hml hP hK hD hS ls hl
  have hl : lv_has ls 2 [(0, .ref m0)] := hl
  have hin1 : ∀ w ∈ u_ws RX1 TX1 9, w ∈ wsX1_seekDraft := by decide +kernel
  have f19 := hts (.fieldLink RX1 19 "NameNumbersModel" "draft" "[I") (by decide +kernel)
  have f22 := hts (.fieldLink RX1 22 "NameNumbersModel" "sought" "[I") (by decide +kernel)
  have f26 := hts (.fieldLink RX1 26 "NameNumbersModel" "written" "I") (by decide +kernel)
  have f33 := hts (.fieldLink RX1 33 "NameNumbersModel" "soughtLength" "I") (by decide +kernel)
  have hP : va_P D vwCl (md_W cI m0 ms mt ml md mk wr sg ta le dr so us rc n sn) s.heap := hP
  refine lv_aload_n hx hb dX1_seekDraft_0 rfl (lv_at hl 0 rfl) ?_
  refine lv_aload_n hx hb dX1_seekDraft_1 rfl (lv_at hl 0 rfl) ?_
  refine va_get (D := D) (ci := 1) (v := .int (nI n)) (C := RX1) (T := TX1) (N := 9) hx hb hts hin1 hown hK hP 0 rfl rfl 6 (by decide) f26 (fun _ h9 => h9) rfl dX1_seekDraft_2 ?_
  refine va_put (D := D) (ci := 1) (v := .int (nI n)) (ty := .int) (C := RX1) (T := TX1) (N := 9) hx hb hts hin1 tyX1 tyX1_ok nmX1 hown hK hP hD hS 0 rfl rfl 8 (by decide) f33 (fun _ h9 => h9) rfl (by decide +kernel) rfl rfl (Nat.le_of_ble_eq_true rfl) dX1_seekDraft_5 (fun H locs hP hD hS => ?_)
  have hP : va_P D vwCl ((m0, .inr (1, [.ref ms, .int (nI us), .ref mt, .ref ml, .int (nI rc), .ref md, .int (nI n), .ref mk, .int (nI n)])) :: (ms, .inl (cI, 20000, .inl sg)) :: (mt, .inl (cI, 3001, .inl ta)) :: (ml, .inl (cI, 3001, .inl le)) :: (md, .inl (cI, 2000, .inl dr)) :: (mk, .inl (cI, 20000, .inl so)) :: wr) H := hP
  have hD : va_D A ((m0, .inr (1, [.ref ms, .int (nI us), .ref mt, .ref ml, .int (nI rc), .ref md, .int (nI n), .ref mk, .int (nI n)])) :: (ms, .inl (cI, 20000, .inl sg)) :: (mt, .inl (cI, 3001, .inl ta)) :: (ml, .inl (cI, 3001, .inl le)) :: (md, .inl (cI, 2000, .inl dr)) :: (mk, .inl (cI, 20000, .inl so)) :: wr) := hD
  refine lv_iconst (v := nI 0) hx hb dX1_seekDraft_8 (by decide) ?_
  refine lv_istore_n (lv' := [(1, .int (nI 0)), (0, .ref m0)]) hx hb dX1_seekDraft_9 rfl hl (by decide) rfl (fun ls hl => ?_)
  have loop : ∀ (j : Nat) (i : Nat) (f : Nat → Int32) (H : Heap) (locs : List Loc) (ls : Array Slot), n + 1 ≤ i + j → i ≤ n → (∀ z, z < i → f z = dr z) → va_P D vwCl (md_W cI m0 ms mt ml md mk wr sg ta le dr f us rc n n) H → va_D A (md_W cI m0 ms mt ml md mk wr sg ta le dr f us rc n n) → va_S A s.heap H locs → lv_has ls 2 [(0, .ref m0), (1, .int (nI i))] → W p l e { frames := 0, cells := 0, slots := 0, locals := 0 } s m [.ref m0].toArray below meth c H locs 0 0 (MQ below (va_Qv (fun w => ∃ so' : Nat → Int32, w = md_W cI m0 ms mt ml md mk wr sg ta le dr so' us rc n n ∧ sp_sl so' 0 n = sp_sl dr 0 n) (mu_B D vwCl tys A) A) [.ref m0].toArray s 0 0 A) (F0 m 10 ls []) := by
    intro j
    induction j with
    | zero => intro i f H locs ls hj hi hinv hP hD hS hl; exfalso; omega
    | succ j ih =>
      intro i f H locs ls hj hi hinv hP hD hS hl
      refine lv_iload_n hx hb dX1_seekDraft_10 rfl (lv_at hl 1 rfl) ?_
      refine lv_aload_n hx hb dX1_seekDraft_11 rfl (lv_at hl 0 rfl) ?_
      refine va_get (D := D) (ci := 1) (v := .int (nI n)) (C := RX1) (T := TX1) (N := 9) hx hb hts hin1 hown hK hP 0 rfl rfl 6 (by decide) f26 (fun _ h9 => h9) rfl dX1_seekDraft_12 ?_
      refine rn_icmp_ge (tgt := 36) hx hb (by omega) (by omega) dX1_seekDraft_15 (by decide) (fun c_15 => ?_) (fun c_15 => ?_)
      · exact mk_vret hx hb hr hlocks hP hK hD hS (⟨f, rfl, sp_ext (fun z hz => by rw [Nat.zero_add]; exact hinv z (by omega))⟩) dX1_seekDraft_36
      · refine lv_aload_n hx hb dX1_seekDraft_18 rfl (lv_at hl 0 rfl) ?_
        refine va_get (D := D) (ci := 1) (v := .ref mk) (C := RX1) (T := TX1) (N := 9) hx hb hts hin1 hown hK hP 0 rfl rfl 7 (by decide) f22 (fun _ h9 => h9) rfl dX1_seekDraft_19 ?_
        refine lv_iload_n hx hb dX1_seekDraft_22 rfl (lv_at hl 1 rfl) ?_
        refine lv_aload_n hx hb dX1_seekDraft_23 rfl (lv_at hl 0 rfl) ?_
        refine va_get (D := D) (ci := 1) (v := .ref md) (C := RX1) (T := TX1) (N := 9) hx hb hts hin1 hown hK hP 0 rfl rfl 5 (by decide) f19 (fun _ h9 => h9) rfl dX1_seekDraft_24 ?_
        refine lv_iload_n hx hb dX1_seekDraft_27 rfl (lv_at hl 1 rfl) ?_
        refine rn_ald (v := dr i) hx hb hK hP 4 0 rfl hty (by omega) (by decide) (rfl) dX1_seekDraft_28 ?_
        refine rn_ast hx hb hK hP hD hS 5 0 rfl hty (by omega) (by decide) dX1_seekDraft_29 (fun H locs hP hD hS => ?_)
        have hP : va_P D vwCl ((m0, .inr (1, [.ref ms, .int (nI us), .ref mt, .ref ml, .int (nI rc), .ref md, .int (nI n), .ref mk, .int (nI n)])) :: (ms, .inl (cI, 20000, .inl sg)) :: (mt, .inl (cI, 3001, .inl ta)) :: (ml, .inl (cI, 3001, .inl le)) :: (md, .inl (cI, 2000, .inl dr)) :: (mk, .inl (cI, 20000, .inl (upd f i (dr i)))) :: wr) H := hP
        have hD : va_D A ((m0, .inr (1, [.ref ms, .int (nI us), .ref mt, .ref ml, .int (nI rc), .ref md, .int (nI n), .ref mk, .int (nI n)])) :: (ms, .inl (cI, 20000, .inl sg)) :: (mt, .inl (cI, 3001, .inl ta)) :: (ml, .inl (cI, 3001, .inl le)) :: (md, .inl (cI, 2000, .inl dr)) :: (mk, .inl (cI, 20000, .inl (upd f i (dr i)))) :: wr) := hD
        refine rn_iinc (n := 1) (lv' := [(1, .int (nI (i + 1))), (0, .ref m0)]) hx hb dX1_seekDraft_30 hl (k := 1) rfl (by decide) rfl (fun ls hl => ?_)
        refine lv_goto (tgt := 10) hx hb dX1_seekDraft_33 (by decide) ?_
        exact ih (i + 1) (upd f i (dr i)) H locs ls (by omega) (by omega) (fun z hz => (Nat.lt_or_ge z i).elim (fun h => by rw [pk_un (by omega)]; exact hinv z h) (fun h => by rw [show z = i by omega, pk_us])) hP hD hS (lv_sub hl [1, 0] rfl)
  exact loop (n + 1) 0 so H locs ls (by omega) (Nat.zero_le _) (fun z hz => absurd hz (Nat.not_lt_zero z)) hP hD hS (lv_sub hl [1, 0] rfl)
set_option maxHeartbeats 4000000 in
set_option maxRecDepth 100000 in
/-- get -/
theorem km_get (l : Launch) (D : va_G) {tys : List (ClassId × FieldType)} {cI : ClassId} (hty : tys[0]? = some (cI, .int)) (m0 ms mt ml md mk : Nat) (wr : va_W) (sg ta le dr so : Nat → Int32) (us rc n sn : Nat) (A : Nat → Prop) (S : Nat → Nat) (hM : md_S ta le us rc S) (hn : n ≤ 2000) (hsn : sn ≤ 20000) : Met l yX1_get wsX1_get ({ frames := 1, cells := 0, slots := 0, locals := 24 }) (mu_Pc D vwCl (md_W cI m0 ms mt ml md mk wr sg ta le dr so us rc n sn) tys A [.ref m0]) (va_Qi (fun r w => ∃ (sg' ta' le' : Nat → Int32) (us' rc' : Nat) (S' : Nat → Nat), w = md_W cI m0 ms mt ml md mk wr sg' ta' le' dr so us' rc' n sn ∧ md_S ta' le' us' rc' S' ∧ sp_numberOf (cn_rows sg S 1 rc) (sp_sl so 0 sn) = (cn_rows sg' S' 1 rc', r)) (mu_B D vwCl tys A) A) 0 0 A := by
  refine mu_of (cc := cX1_get) (maxL := 3) (ret := some .int) (own := RX1) (by decide) rfl rfl (Nat.le_of_ble_eq_true rfl) ?_
  intro p e s m below meth c hx hb hr hts hown hlocks hml hP hK hD hS ls hl
  have hl : lv_has ls 3 [(0, .ref m0)] := hl
  have hin1 : ∀ w ∈ u_ws RX1 TX1 9, w ∈ wsX1_get := by decide +kernel
  have f7 := hts (.fieldLink RX1 7 "NameNumbersModel" "signs" "[I") (by decide +kernel)
  have f13 := hts (.fieldLink RX1 13 "NameNumbersModel" "starts" "[I") (by decide +kernel)
  have f16 := hts (.fieldLink RX1 16 "NameNumbersModel" "lengths" "[I") (by decide +kernel)
  have f22 := hts (.fieldLink RX1 22 "NameNumbersModel" "sought" "[I") (by decide +kernel)
  have f30 := hts (.fieldLink RX1 30 "NameNumbersModel" "rows" "I") (by decide +kernel)
  have f33 := hts (.fieldLink RX1 33 "NameNumbersModel" "soughtLength" "I") (by decide +kernel)
  have f40 := hts (.fieldLink RX1 40 "NameNumbersModel" "used" "I") (by decide +kernel)
  have hP : va_P D vwCl (md_W cI m0 ms mt ml md mk wr sg ta le dr so us rc n sn) s.heap := hP
  have hrc := hM.2.2.2.2.2
  have hus := hM.2.2.2.2.1
  refine lv_aload_n hx hb dX1_get_0 rfl (lv_at hl 0 rfl) ?_
  refine vp_callSi (W.runV (As := []) (rest := []) ⟨hx, hb, hml, hown, hts⟩ (km_find l D hty m0 ms mt ml md mk wr sg ta le dr so us rc n sn S hM hsn) (cwV 0 hts gX1_get_X1_find rfl rfl rfl (by decide +kernel) ⟨Nat.le_of_ble_eq_true rfl, Nat.le_of_ble_eq_true rfl⟩) (pu_preV hK hP 0 rfl rfl) rfl rfl hl.1 rfl (lv_room (Nat.le_of_ble_eq_true rfl)) dX1_get_1 ⟨Nat.zero_le _, Nat.zero_le _⟩) (fun r1 er1 => ?_)
  rcases hF : (sp_fd (sp_sl so 0 sn) (cn_rows sg S 1 rc) 1) with _ | kf
  · rw [hF] at er1
    have er1 : r1 = nI 0 := er1
    subst er1
    refine lv_istore_n (lv' := [(1, .int (nI 0)), (0, .ref m0)]) hx hb dX1_get_4 rfl hl (by decide) rfl (fun ls hl => ?_)
    refine lv_iload_n hx hb dX1_get_5 rfl (lv_at hl 0 rfl) ?_
    refine lv_if_le (tgt := 11) hx hb dX1_get_6 (by decide) (fun c_6 => ?_) (fun c_6 => absurd c_6 (not_not_intro (by decide)))
    refine lv_aload_n hx hb dX1_get_11 rfl (lv_at hl 1 rfl) ?_
    refine va_get (D := D) (ci := 1) (v := .int (nI rc)) (C := RX1) (T := TX1) (N := 9) hx hb hts hin1 hown hK hP 0 rfl rfl 4 (by decide) f30 (fun _ h9 => h9) rfl dX1_get_12 ?_
    refine lv_sipush (v := nI 3000) hx hb dX1_get_15 (by decide) ?_
    refine rn_icmp_eq (tgt := 36) hx hb (by omega) (by omega) dX1_get_18 (by decide) (fun c_18 => ?_) (fun c_18 => ?_)
    · refine lv_iconst (v := (-1)) hx hb dX1_get_36 (by decide) ?_
      exact mu_iret hx hb hr hlocks hP hK hD hS (⟨sg, ta, le, us, rc, S, rfl, hM, md_nb_full hM hF (sp_len _ _ _) (by first | exact Or.inl c_18 | exact Or.inr c_33)⟩) dX1_get_37
    · refine lv_aload_n hx hb dX1_get_21 rfl (lv_at hl 1 rfl) ?_
      refine va_get (D := D) (ci := 1) (v := .int (nI us)) (C := RX1) (T := TX1) (N := 9) hx hb hts hin1 hown hK hP 0 rfl rfl 1 (by decide) f40 (fun _ h9 => h9) rfl dX1_get_22 ?_
      refine lv_aload_n hx hb dX1_get_25 rfl (lv_at hl 1 rfl) ?_
      refine va_get (D := D) (ci := 1) (v := .int (nI sn)) (C := RX1) (T := TX1) (N := 9) hx hb hts hin1 hown hK hP 0 rfl rfl 8 (by decide) f33 (fun _ h9 => h9) rfl dX1_get_26 ?_
      refine rn_iadd hx hb dX1_get_29 ?_
      refine lv_sipush (v := nI 20000) hx hb dX1_get_30 (by decide) ?_
      refine rn_icmp_le (tgt := 38) hx hb (by omega) (by omega) dX1_get_33 (by decide) (fun c_33 => ?_) (fun c_33 => ?_)
      · refine lv_aload_n hx hb dX1_get_38 rfl (lv_at hl 1 rfl) ?_
        refine lv_aload_n hx hb dX1_get_39 rfl (lv_at hl 1 rfl) ?_
        refine va_get (D := D) (ci := 1) (v := .int (nI rc)) (C := RX1) (T := TX1) (N := 9) hx hb hts hin1 hown hK hP 0 rfl rfl 4 (by decide) f30 (fun _ h9 => h9) rfl dX1_get_40 ?_
        refine lv_iconst (v := nI 1) hx hb dX1_get_43 (by decide) ?_
        refine rn_iadd hx hb dX1_get_44 ?_
        refine va_put (D := D) (ci := 1) (v := .int (nI (rc + 1))) (ty := .int) (C := RX1) (T := TX1) (N := 9) hx hb hts hin1 tyX1 tyX1_ok nmX1 hown hK hP hD hS 0 rfl rfl 4 (by decide) f30 (fun _ h9 => h9) rfl (by decide +kernel) rfl rfl (Nat.le_of_ble_eq_true rfl) dX1_get_45 (fun H locs hP hD hS => ?_)
        have hP : va_P D vwCl ((m0, .inr (1, [.ref ms, .int (nI us), .ref mt, .ref ml, .int (nI (rc + 1)), .ref md, .int (nI n), .ref mk, .int (nI sn)])) :: (ms, .inl (cI, 20000, .inl sg)) :: (mt, .inl (cI, 3001, .inl ta)) :: (ml, .inl (cI, 3001, .inl le)) :: (md, .inl (cI, 2000, .inl dr)) :: (mk, .inl (cI, 20000, .inl so)) :: wr) H := hP
        have hD : va_D A ((m0, .inr (1, [.ref ms, .int (nI us), .ref mt, .ref ml, .int (nI (rc + 1)), .ref md, .int (nI n), .ref mk, .int (nI sn)])) :: (ms, .inl (cI, 20000, .inl sg)) :: (mt, .inl (cI, 3001, .inl ta)) :: (ml, .inl (cI, 3001, .inl le)) :: (md, .inl (cI, 2000, .inl dr)) :: (mk, .inl (cI, 20000, .inl so)) :: wr) := hD
        refine lv_aload_n hx hb dX1_get_48 rfl (lv_at hl 1 rfl) ?_
        refine va_get (D := D) (ci := 1) (v := .ref mt) (C := RX1) (T := TX1) (N := 9) hx hb hts hin1 hown hK hP 0 rfl rfl 2 (by decide) f13 (fun _ h9 => h9) rfl dX1_get_49 ?_
        refine lv_aload_n hx hb dX1_get_52 rfl (lv_at hl 1 rfl) ?_
        refine va_get (D := D) (ci := 1) (v := .int (nI (rc + 1))) (C := RX1) (T := TX1) (N := 9) hx hb hts hin1 hown hK hP 0 rfl rfl 4 (by decide) f30 (fun _ h9 => h9) rfl dX1_get_53 ?_
        refine lv_aload_n hx hb dX1_get_56 rfl (lv_at hl 1 rfl) ?_
        refine va_get (D := D) (ci := 1) (v := .int (nI us)) (C := RX1) (T := TX1) (N := 9) hx hb hts hin1 hown hK hP 0 rfl rfl 1 (by decide) f40 (fun _ h9 => h9) rfl dX1_get_57 ?_
        refine rn_ast hx hb hK hP hD hS 2 0 rfl hty (by omega) (by decide) dX1_get_60 (fun H locs hP hD hS => ?_)
        have hP : va_P D vwCl ((m0, .inr (1, [.ref ms, .int (nI us), .ref mt, .ref ml, .int (nI (rc + 1)), .ref md, .int (nI n), .ref mk, .int (nI sn)])) :: (ms, .inl (cI, 20000, .inl sg)) :: (mt, .inl (cI, 3001, .inl (upd ta (rc + 1) (nI us)))) :: (ml, .inl (cI, 3001, .inl le)) :: (md, .inl (cI, 2000, .inl dr)) :: (mk, .inl (cI, 20000, .inl so)) :: wr) H := hP
        have hD : va_D A ((m0, .inr (1, [.ref ms, .int (nI us), .ref mt, .ref ml, .int (nI (rc + 1)), .ref md, .int (nI n), .ref mk, .int (nI sn)])) :: (ms, .inl (cI, 20000, .inl sg)) :: (mt, .inl (cI, 3001, .inl (upd ta (rc + 1) (nI us)))) :: (ml, .inl (cI, 3001, .inl le)) :: (md, .inl (cI, 2000, .inl dr)) :: (mk, .inl (cI, 20000, .inl so)) :: wr) := hD
        refine lv_aload_n hx hb dX1_get_61 rfl (lv_at hl 1 rfl) ?_
        refine va_get (D := D) (ci := 1) (v := .ref ml) (C := RX1) (T := TX1) (N := 9) hx hb hts hin1 hown hK hP 0 rfl rfl 3 (by decide) f16 (fun _ h9 => h9) rfl dX1_get_62 ?_
        refine lv_aload_n hx hb dX1_get_65 rfl (lv_at hl 1 rfl) ?_
        refine va_get (D := D) (ci := 1) (v := .int (nI (rc + 1))) (C := RX1) (T := TX1) (N := 9) hx hb hts hin1 hown hK hP 0 rfl rfl 4 (by decide) f30 (fun _ h9 => h9) rfl dX1_get_66 ?_
        refine lv_aload_n hx hb dX1_get_69 rfl (lv_at hl 1 rfl) ?_
        refine va_get (D := D) (ci := 1) (v := .int (nI sn)) (C := RX1) (T := TX1) (N := 9) hx hb hts hin1 hown hK hP 0 rfl rfl 8 (by decide) f33 (fun _ h9 => h9) rfl dX1_get_70 ?_
        refine rn_ast hx hb hK hP hD hS 3 0 rfl hty (by omega) (by decide) dX1_get_73 (fun H locs hP hD hS => ?_)
        have hP : va_P D vwCl ((m0, .inr (1, [.ref ms, .int (nI us), .ref mt, .ref ml, .int (nI (rc + 1)), .ref md, .int (nI n), .ref mk, .int (nI sn)])) :: (ms, .inl (cI, 20000, .inl sg)) :: (mt, .inl (cI, 3001, .inl (upd ta (rc + 1) (nI us)))) :: (ml, .inl (cI, 3001, .inl (upd le (rc + 1) (nI sn)))) :: (md, .inl (cI, 2000, .inl dr)) :: (mk, .inl (cI, 20000, .inl so)) :: wr) H := hP
        have hD : va_D A ((m0, .inr (1, [.ref ms, .int (nI us), .ref mt, .ref ml, .int (nI (rc + 1)), .ref md, .int (nI n), .ref mk, .int (nI sn)])) :: (ms, .inl (cI, 20000, .inl sg)) :: (mt, .inl (cI, 3001, .inl (upd ta (rc + 1) (nI us)))) :: (ml, .inl (cI, 3001, .inl (upd le (rc + 1) (nI sn)))) :: (md, .inl (cI, 2000, .inl dr)) :: (mk, .inl (cI, 20000, .inl so)) :: wr) := hD
        refine lv_iconst (v := nI 0) hx hb dX1_get_74 (by decide) ?_
        refine lv_istore_n (lv' := [(2, .int (nI 0)), (1, .int (nI 0)), (0, .ref m0)]) hx hb dX1_get_75 rfl hl (by decide) rfl (fun ls hl => ?_)
        have loop : ∀ (j : Nat) (i : Nat) (f : Nat → Int32) (H : Heap) (locs : List Loc) (ls : Array Slot), sn + 1 ≤ i + j → i ≤ sn → (∀ z, z < us → f z = sg z) → (∀ z, z < i → f (us + z) = so z) → va_P D vwCl (md_W cI m0 ms mt ml md mk wr f (upd ta (rc + 1) (nI us)) (upd le (rc + 1) (nI sn)) dr so (us + i) (rc + 1) n sn) H → va_D A (md_W cI m0 ms mt ml md mk wr f (upd ta (rc + 1) (nI us)) (upd le (rc + 1) (nI sn)) dr so (us + i) (rc + 1) n sn) → va_S A s.heap H locs → lv_has ls 3 [(0, .ref m0), (2, .int (nI i))] → W p l e { frames := 1, cells := 0, slots := 0, locals := 24 } s m [.ref m0].toArray below meth c H locs 0 0 (MQ below (va_Qi (fun r w => ∃ (sg' ta' le' : Nat → Int32) (us' rc' : Nat) (S' : Nat → Nat), w = md_W cI m0 ms mt ml md mk wr sg' ta' le' dr so us' rc' n sn ∧ md_S ta' le' us' rc' S' ∧ sp_numberOf (cn_rows sg S 1 rc) (sp_sl so 0 sn) = (cn_rows sg' S' 1 rc', r)) (mu_B D vwCl tys A) A) [.ref m0].toArray s 0 0 A) (F0 m 76 ls []) := by
          intro j
          induction j with
          | zero => intro i f H locs ls hj hi hinv1 hinv2 hP hD hS hl; exfalso; omega
          | succ j ih =>
            intro i f H locs ls hj hi hinv1 hinv2 hP hD hS hl
            refine lv_iload_n hx hb dX1_get_76 rfl (lv_at hl 1 rfl) ?_
            refine lv_aload_n hx hb dX1_get_77 rfl (lv_at hl 0 rfl) ?_
            refine va_get (D := D) (ci := 1) (v := .int (nI sn)) (C := RX1) (T := TX1) (N := 9) hx hb hts hin1 hown hK hP 0 rfl rfl 8 (by decide) f33 (fun _ h9 => h9) rfl dX1_get_78 ?_
            refine rn_icmp_ge (tgt := 115) hx hb (by omega) (by omega) dX1_get_81 (by decide) (fun c_81 => ?_) (fun c_81 => ?_)
            · obtain rfl : i = sn := by omega
              refine lv_aload_n hx hb dX1_get_115 rfl (lv_at hl 0 rfl) ?_
              refine va_get (D := D) (ci := 1) (v := .int (nI (rc + 1))) (C := RX1) (T := TX1) (N := 9) hx hb hts hin1 hown hK hP 0 rfl rfl 4 (by decide) f30 (fun _ h9 => h9) rfl dX1_get_116 ?_
              exact mu_iret hx hb hr hlocks hP hK hD hS (⟨_, _, _, _, _, _, rfl, md_S_add hM c_18 c_33, md_nb_new hM hF c_18 c_33 hinv1 hinv2⟩) dX1_get_119
            · refine lv_aload_n hx hb dX1_get_84 rfl (lv_at hl 0 rfl) ?_
              refine va_get (D := D) (ci := 1) (v := .ref ms) (C := RX1) (T := TX1) (N := 9) hx hb hts hin1 hown hK hP 0 rfl rfl 0 (by decide) f7 (fun _ h9 => h9) rfl dX1_get_85 ?_
              refine lv_aload_n hx hb dX1_get_88 rfl (lv_at hl 0 rfl) ?_
              refine va_get (D := D) (ci := 1) (v := .int (nI (us + i))) (C := RX1) (T := TX1) (N := 9) hx hb hts hin1 hown hK hP 0 rfl rfl 1 (by decide) f40 (fun _ h9 => h9) rfl dX1_get_89 ?_
              refine lv_aload_n hx hb dX1_get_92 rfl (lv_at hl 0 rfl) ?_
              refine va_get (D := D) (ci := 1) (v := .ref mk) (C := RX1) (T := TX1) (N := 9) hx hb hts hin1 hown hK hP 0 rfl rfl 7 (by decide) f22 (fun _ h9 => h9) rfl dX1_get_93 ?_
              refine lv_iload_n hx hb dX1_get_96 rfl (lv_at hl 1 rfl) ?_
              refine rn_ald (v := so i) hx hb hK hP 5 0 rfl hty (by omega) (by decide) (rfl) dX1_get_97 ?_
              refine rn_ast hx hb hK hP hD hS 1 0 rfl hty (by omega) (by decide) dX1_get_98 (fun H locs hP hD hS => ?_)
              have hP : va_P D vwCl ((m0, .inr (1, [.ref ms, .int (nI (us + i)), .ref mt, .ref ml, .int (nI (rc + 1)), .ref md, .int (nI n), .ref mk, .int (nI sn)])) :: (ms, .inl (cI, 20000, .inl (upd f (us + i) (so i)))) :: (mt, .inl (cI, 3001, .inl (upd ta (rc + 1) (nI us)))) :: (ml, .inl (cI, 3001, .inl (upd le (rc + 1) (nI sn)))) :: (md, .inl (cI, 2000, .inl dr)) :: (mk, .inl (cI, 20000, .inl so)) :: wr) H := hP
              have hD : va_D A ((m0, .inr (1, [.ref ms, .int (nI (us + i)), .ref mt, .ref ml, .int (nI (rc + 1)), .ref md, .int (nI n), .ref mk, .int (nI sn)])) :: (ms, .inl (cI, 20000, .inl (upd f (us + i) (so i)))) :: (mt, .inl (cI, 3001, .inl (upd ta (rc + 1) (nI us)))) :: (ml, .inl (cI, 3001, .inl (upd le (rc + 1) (nI sn)))) :: (md, .inl (cI, 2000, .inl dr)) :: (mk, .inl (cI, 20000, .inl so)) :: wr) := hD
              refine lv_aload_n hx hb dX1_get_99 rfl (lv_at hl 0 rfl) ?_
              refine lv_aload_n hx hb dX1_get_100 rfl (lv_at hl 0 rfl) ?_
              refine va_get (D := D) (ci := 1) (v := .int (nI (us + i))) (C := RX1) (T := TX1) (N := 9) hx hb hts hin1 hown hK hP 0 rfl rfl 1 (by decide) f40 (fun _ h9 => h9) rfl dX1_get_101 ?_
              refine lv_iconst (v := nI 1) hx hb dX1_get_104 (by decide) ?_
              refine rn_iadd hx hb dX1_get_105 ?_
              refine va_put (D := D) (ci := 1) (v := .int (nI (us + i + 1))) (ty := .int) (C := RX1) (T := TX1) (N := 9) hx hb hts hin1 tyX1 tyX1_ok nmX1 hown hK hP hD hS 0 rfl rfl 1 (by decide) f40 (fun _ h9 => h9) rfl (by decide +kernel) rfl rfl (Nat.le_of_ble_eq_true rfl) dX1_get_106 (fun H locs hP hD hS => ?_)
              have hP : va_P D vwCl ((m0, .inr (1, [.ref ms, .int (nI (us + i + 1)), .ref mt, .ref ml, .int (nI (rc + 1)), .ref md, .int (nI n), .ref mk, .int (nI sn)])) :: (ms, .inl (cI, 20000, .inl (upd f (us + i) (so i)))) :: (mt, .inl (cI, 3001, .inl (upd ta (rc + 1) (nI us)))) :: (ml, .inl (cI, 3001, .inl (upd le (rc + 1) (nI sn)))) :: (md, .inl (cI, 2000, .inl dr)) :: (mk, .inl (cI, 20000, .inl so)) :: wr) H := hP
              have hD : va_D A ((m0, .inr (1, [.ref ms, .int (nI (us + i + 1)), .ref mt, .ref ml, .int (nI (rc + 1)), .ref md, .int (nI n), .ref mk, .int (nI sn)])) :: (ms, .inl (cI, 20000, .inl (upd f (us + i) (so i)))) :: (mt, .inl (cI, 3001, .inl (upd ta (rc + 1) (nI us)))) :: (ml, .inl (cI, 3001, .inl (upd le (rc + 1) (nI sn)))) :: (md, .inl (cI, 2000, .inl dr)) :: (mk, .inl (cI, 20000, .inl so)) :: wr) := hD
              refine rn_iinc (n := 1) (lv' := [(2, .int (nI (i + 1))), (0, .ref m0)]) hx hb dX1_get_109 hl (k := 1) rfl (by decide) rfl (fun ls hl => ?_)
              refine lv_goto (tgt := 76) hx hb dX1_get_112 (by decide) ?_
              exact ih (i + 1) (upd f (us + i) (so i)) H locs ls (by omega) (by omega) (fun z hz => by rw [pk_un (by omega)]; exact hinv1 z hz) (fun z hz => (Nat.lt_or_ge z i).elim (fun h => by rw [pk_un (by omega)]; exact hinv2 z h) (fun h => by rw [show z = i by omega, pk_us])) hP hD hS (lv_sub hl [1, 0] rfl)
        exact loop (sn + 1) 0 sg H locs ls (by omega) (Nat.zero_le _) (fun _ _ => rfl) (fun z hz => absurd hz (Nat.not_lt_zero z)) hP hD hS (lv_sub hl [2, 0] rfl)
      · refine lv_iconst (v := (-1)) hx hb dX1_get_36 (by decide) ?_
        exact mu_iret hx hb hr hlocks hP hK hD hS (⟨sg, ta, le, us, rc, S, rfl, hM, md_nb_full hM hF (sp_len _ _ _) (by first | exact Or.inl c_18 | exact Or.inr c_33)⟩) dX1_get_37
  · rw [hF] at er1
    have er1 : r1 = nI kf := er1
    subst er1
    have hf1 := sp_fd_ge _ _ _ hF
    have hf2 := sp_fd_lt _ _ _ hF
    rw [cn_rows_len] at hf2
    refine lv_istore_n (lv' := [(1, .int (nI kf)), (0, .ref m0)]) hx hb dX1_get_4 rfl hl (by decide) rfl (fun ls hl => ?_)
    refine lv_iload_n hx hb dX1_get_5 rfl (lv_at hl 0 rfl) ?_
    refine lv_if_le (tgt := 11) hx hb dX1_get_6 (by decide) (fun c_6 => absurd c_6 (nI_nle (by omega) (by omega))) (fun c_6 => ?_)
    refine lv_iload_n hx hb dX1_get_9 rfl (lv_at hl 0 rfl) ?_
    exact mu_iret hx hb hr hlocks hP hK hD hS (⟨sg, ta, le, us, rc, S, rfl, hM, md_nb_old hF⟩) dX1_get_10
set_option maxHeartbeats 4000000 in
set_option maxRecDepth 100000 in
/-- number -/
theorem km_number (l : Launch) (D : va_G) {tys : List (ClassId × FieldType)} {cI : ClassId} (hty : tys[0]? = some (cI, .int)) (m0 ms mt ml md mk : Nat) (wr : va_W) (sg ta le dr so : Nat → Int32) (us rc n sn : Nat) (A : Nat → Prop) (S : Nat → Nat) (hM : md_S ta le us rc S) (hn : n ≤ 2000) (hsn : sn ≤ 20000) : Met l yX1_number wsX1_number ({ frames := 2, cells := 0, slots := 0, locals := 48 }) (mu_Pc D vwCl (md_W cI m0 ms mt ml md mk wr sg ta le dr so us rc n sn) tys A [.ref m0]) (va_Qi (fun r w => md_Ok cI (md_W cI m0 ms mt ml md mk wr) (if r = -1 then (sp_sl dr 0 n) else []) (sp_numberOf (cn_rows sg S 1 rc) (sp_sl dr 0 n)).1 w ∧ r = (sp_numberOf (cn_rows sg S 1 rc) (sp_sl dr 0 n)).2) (mu_B D vwCl tys A) A) 0 0 A := by
  refine mu_of (cc := cX1_number) (maxL := 2) (ret := some .int) (own := RX1) (by decide) rfl rfl (Nat.le_of_ble_eq_true rfl) ?_
  intro p e s m below meth c hx hb hr hts hown hlocks hml hP hK hD hS ls hl
  have hl : lv_has ls 2 [(0, .ref m0)] := hl
  have hin1 : ∀ w ∈ u_ws RX1 TX1 9, w ∈ wsX1_number := by decide +kernel
  have f26 := hts (.fieldLink RX1 26 "NameNumbersModel" "written" "I") (by decide +kernel)
  have hP : va_P D vwCl (md_W cI m0 ms mt ml md mk wr sg ta le dr so us rc n sn) s.heap := hP
  refine lv_aload_n hx hb dX1_number_0 rfl (lv_at hl 0 rfl) ?_
  refine mk_callv (va_runV (As := []) (rest := []) ⟨hx, hb, hml, hown, hts⟩ (km_seekDraft l D hty m0 ms mt ml md mk wr sg ta le dr so us rc n sn A hn) (cwV 0 hts gX1_number_X1_seekDraft rfl rfl rfl (by decide +kernel) ⟨Nat.le_of_ble_eq_true rfl, Nat.le_of_ble_eq_true rfl⟩) (mu_preV hK hP hD 0 rfl rfl) rfl rfl hl.1 rfl (lv_room (Nat.le_of_ble_eq_true rfl)) dX1_number_1 ⟨Nat.zero_le _, Nat.zero_le _⟩) hS (fun w_1 H locs er1 hP hD hS => ?_)
  obtain ⟨so', rfl, hso⟩ := er1
  refine lv_aload_n hx hb dX1_number_4 rfl (lv_at hl 0 rfl) ?_
  refine mu_calli (va_runV (As := []) (rest := []) ⟨hx, hb, hml, hown, hts⟩ (km_get l D hty m0 ms mt ml md mk wr sg ta le dr so' us rc n n A S hM hn (by omega)) (cwV 0 hts gX1_number_X1_get rfl rfl rfl (by decide +kernel) ⟨Nat.le_of_ble_eq_true rfl, Nat.le_of_ble_eq_true rfl⟩) (mu_preV hK hP hD 0 rfl rfl) rfl rfl hl.1 rfl (lv_room (Nat.le_of_ble_eq_true rfl)) dX1_number_5 ⟨Nat.zero_le _, Nat.zero_le _⟩) hS (fun r5 w_5 H locs er5 hP hD hS => ?_)
  obtain ⟨sg', ta', le', us', rc', S', rfl, hM', hsp⟩ := er5
  rw [hso] at hsp
  refine lv_istore_n (lv' := [(1, .int r5), (0, .ref m0)]) hx hb dX1_number_8 rfl hl (by decide) rfl (fun ls hl => ?_)
  refine lv_aload_n hx hb dX1_number_9 rfl (lv_at hl 1 rfl) ?_
  refine lv_iload_n hx hb dX1_number_10 rfl (lv_at hl 0 rfl) ?_
  refine lv_if_ge (tgt := 21) hx hb dX1_number_11 (by decide) (fun c_11 => ?_) (fun c_11 => ?_)
  · refine lv_iconst (v := nI 0) hx hb dX1_number_21 (by decide) ?_
    refine va_put (D := D) (ci := 1) (v := .int (nI 0)) (ty := .int) (C := RX1) (T := TX1) (N := 9) hx hb hts hin1 tyX1 tyX1_ok nmX1 hown hK hP hD hS 0 rfl rfl 6 (by decide) f26 (fun _ h9 => h9) rfl (by decide +kernel) rfl rfl (Nat.le_of_ble_eq_true rfl) dX1_number_22 (fun H locs hP hD hS => ?_)
    have hP : va_P D vwCl ((m0, .inr (1, [.ref ms, .int (nI us'), .ref mt, .ref ml, .int (nI rc'), .ref md, .int (nI 0), .ref mk, .int (nI n)])) :: (ms, .inl (cI, 20000, .inl sg')) :: (mt, .inl (cI, 3001, .inl ta')) :: (ml, .inl (cI, 3001, .inl le')) :: (md, .inl (cI, 2000, .inl dr)) :: (mk, .inl (cI, 20000, .inl so')) :: wr) H := hP
    have hD : va_D A ((m0, .inr (1, [.ref ms, .int (nI us'), .ref mt, .ref ml, .int (nI rc'), .ref md, .int (nI 0), .ref mk, .int (nI n)])) :: (ms, .inl (cI, 20000, .inl sg')) :: (mt, .inl (cI, 3001, .inl ta')) :: (ml, .inl (cI, 3001, .inl le')) :: (md, .inl (cI, 2000, .inl dr)) :: (mk, .inl (cI, 20000, .inl so')) :: wr) := hD
    refine lv_iload_n hx hb dX1_number_25 rfl (lv_at hl 0 rfl) ?_
    exact mu_iret hx hb hr hlocks hP hK hD hS (by rw [hsp]; first | exact ⟨⟨sg', ta', le', dr, so', us', rc', 0, n, S', rfl, by omega, by omega, hM', if_neg (md_ge c_11), rfl⟩, rfl⟩ | exact ⟨⟨sg', ta', le', dr, so', us', rc', n, n, S', rfl, hn, by omega, hM', if_pos (md_neg (by rw [cn_rows_len]; exact hM.2.2.2.2.2) hsp c_11), rfl⟩, rfl⟩) dX1_number_26
  · refine lv_aload_n hx hb dX1_number_14 rfl (lv_at hl 1 rfl) ?_
    refine va_get (D := D) (ci := 1) (v := .int (nI n)) (C := RX1) (T := TX1) (N := 9) hx hb hts hin1 hown hK hP 0 rfl rfl 6 (by decide) f26 (fun _ h9 => h9) rfl dX1_number_15 ?_
    refine lv_goto (tgt := 22) hx hb dX1_number_18 (by decide) ?_
    refine va_put (D := D) (ci := 1) (v := .int (nI n)) (ty := .int) (C := RX1) (T := TX1) (N := 9) hx hb hts hin1 tyX1 tyX1_ok nmX1 hown hK hP hD hS 0 rfl rfl 6 (by decide) f26 (fun _ h9 => h9) rfl (by decide +kernel) rfl rfl (Nat.le_of_ble_eq_true rfl) dX1_number_22 (fun H locs hP hD hS => ?_)
    have hP : va_P D vwCl ((m0, .inr (1, [.ref ms, .int (nI us'), .ref mt, .ref ml, .int (nI rc'), .ref md, .int (nI n), .ref mk, .int (nI n)])) :: (ms, .inl (cI, 20000, .inl sg')) :: (mt, .inl (cI, 3001, .inl ta')) :: (ml, .inl (cI, 3001, .inl le')) :: (md, .inl (cI, 2000, .inl dr)) :: (mk, .inl (cI, 20000, .inl so')) :: wr) H := hP
    have hD : va_D A ((m0, .inr (1, [.ref ms, .int (nI us'), .ref mt, .ref ml, .int (nI rc'), .ref md, .int (nI n), .ref mk, .int (nI n)])) :: (ms, .inl (cI, 20000, .inl sg')) :: (mt, .inl (cI, 3001, .inl ta')) :: (ml, .inl (cI, 3001, .inl le')) :: (md, .inl (cI, 2000, .inl dr)) :: (mk, .inl (cI, 20000, .inl so')) :: wr) := hD
    refine lv_iload_n hx hb dX1_number_25 rfl (lv_at hl 0 rfl) ?_
    exact mu_iret hx hb hr hlocks hP hK hD hS (by rw [hsp]; first | exact ⟨⟨sg', ta', le', dr, so', us', rc', 0, n, S', rfl, by omega, by omega, hM', if_neg (md_ge c_11), rfl⟩, rfl⟩ | exact ⟨⟨sg', ta', le', dr, so', us', rc', n, n, S', rfl, hn, by omega, hM', if_pos (md_neg (by rw [cn_rows_len]; exact hM.2.2.2.2.2) hsp c_11), rfl⟩, rfl⟩) dX1_number_26
set_option maxHeartbeats 4000000 in
set_option maxRecDepth 100000 in
/-- isKnown -/
theorem km_isKnown (l : Launch) (D : va_G) {tys : List (ClassId × FieldType)} {cI : ClassId} (hty : tys[0]? = some (cI, .int)) (m0 ms mt ml md mk : Nat) (wr : va_W) (sg ta le dr so : Nat → Int32) (us rc n sn : Nat) (A : Nat → Prop) (S : Nat → Nat) (hM : md_S ta le us rc S) (hn : n ≤ 2000) (hsn : sn ≤ 20000) : Met l yX1_isKnown wsX1_isKnown ({ frames := 1, cells := 0, slots := 0, locals := 24 }) (mu_Pc D vwCl (md_W cI m0 ms mt ml md mk wr sg ta le dr so us rc n sn) tys A [.ref m0]) (va_Qi (fun r w => md_Ok cI (md_W cI m0 ms mt ml md mk wr) (sp_sl dr 0 n) (cn_rows sg S 1 rc) w ∧ r = sp_known (cn_rows sg S 1 rc) (sp_sl dr 0 n)) (mu_B D vwCl tys A) A) 0 0 A := by
  refine mu_of (cc := cX1_isKnown) (maxL := 1) (ret := some .boolean) (own := RX1) (by decide) rfl rfl (Nat.le_of_ble_eq_true rfl) ?_
  intro p e s m below meth c hx hb hr hts hown hlocks hml hP hK hD hS ls hl
  have hl : lv_has ls 1 [(0, .ref m0)] := hl
  have hP : va_P D vwCl (md_W cI m0 ms mt ml md mk wr sg ta le dr so us rc n sn) s.heap := hP
  have hrc := hM.2.2.2.2.2
  refine lv_aload_n hx hb dX1_isKnown_0 rfl (lv_at hl 0 rfl) ?_
  refine mk_callv (va_runV (As := []) (rest := []) ⟨hx, hb, hml, hown, hts⟩ (km_seekDraft l D hty m0 ms mt ml md mk wr sg ta le dr so us rc n sn A hn) (cwV 0 hts gX1_isKnown_X1_seekDraft rfl rfl rfl (by decide +kernel) ⟨Nat.le_of_ble_eq_true rfl, Nat.le_of_ble_eq_true rfl⟩) (mu_preV hK hP hD 0 rfl rfl) rfl rfl hl.1 rfl (lv_room (Nat.le_of_ble_eq_true rfl)) dX1_isKnown_1 ⟨Nat.zero_le _, Nat.zero_le _⟩) hS (fun w_1 H locs er1 hP hD hS => ?_)
  obtain ⟨so', rfl, hso⟩ := er1
  refine lv_aload_n hx hb dX1_isKnown_4 rfl (lv_at hl 0 rfl) ?_
  refine vp_callSi (W.runV (As := []) (rest := []) ⟨hx, hb, hml, hown, hts⟩ (km_find l D hty m0 ms mt ml md mk wr sg ta le dr so' us rc n n S hM (by omega)) (cwV 0 hts gX1_isKnown_X1_find rfl rfl rfl (by decide +kernel) ⟨Nat.le_of_ble_eq_true rfl, Nat.le_of_ble_eq_true rfl⟩) (pu_preV hK hP 0 rfl rfl) rfl rfl hl.1 rfl (lv_room (Nat.le_of_ble_eq_true rfl)) dX1_isKnown_5 ⟨Nat.zero_le _, Nat.zero_le _⟩) (fun r5 er5 => ?_)
  rcases hF : (sp_fd (sp_sl so' 0 n) (cn_rows sg S 1 rc) 1) with _ | kf
  · rw [hF] at er5
    have er5 : r5 = nI 0 := er5
    subst er5
    refine lv_if_le (tgt := 15) hx hb dX1_isKnown_8 (by decide) (fun c_8 => ?_) (fun c_8 => absurd c_8 (not_not_intro (by decide)))
    refine lv_iconst (v := nI 0) hx hb dX1_isKnown_15 (by decide) ?_
    exact mu_zret hx hb hr hlocks (by decide) hP hK hD hS (⟨⟨sg, ta, le, dr, so', us, rc, n, n, S, rfl, hn, by omega, hM, rfl, rfl⟩, by rw [sp_known, ← hso, hF]; rfl⟩) dX1_isKnown_16
  · rw [hF] at er5
    have er5 : r5 = nI kf := er5
    subst er5
    have hf1 := sp_fd_ge _ _ _ hF
    have hf2 := sp_fd_lt _ _ _ hF
    rw [cn_rows_len] at hf2
    refine lv_if_le (tgt := 15) hx hb dX1_isKnown_8 (by decide) (fun c_8 => absurd c_8 (nI_nle (by omega) (by omega))) (fun c_8 => ?_)
    refine lv_iconst (v := nI 1) hx hb dX1_isKnown_11 (by decide) ?_
    refine lv_goto (tgt := 16) hx hb dX1_isKnown_12 (by decide) ?_
    exact mu_zret hx hb hr hlocks (by decide) hP hK hD hS (⟨⟨sg, ta, le, dr, so', us, rc, n, n, S, rfl, hn, by omega, hM, rfl, rfl⟩, by rw [sp_known, ← hso, hF]; rfl⟩) dX1_isKnown_16
