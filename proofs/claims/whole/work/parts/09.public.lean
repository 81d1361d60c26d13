/-- the class's cells w hold the draft d and the rows -/
def cn_Ok (cI : ClassId) (h0 hd hc hs : Nat) (wr : va_W) (d : List Int32) (rows : List (List Int32)) (w : va_W) : Prop := ∃ (dr ch st : Nat → Int32) (n rc : Nat) (S : Nat → Nat), w = cn_W cI h0 hd hc hs wr dr ch st n rc ∧ n ≤ 2000 ∧ cn_S st rc S ∧ d = sp_sl dr 0 n ∧ rows = cn_rows ch S 1 rc
set_option maxHeartbeats 4000000 in
set_option maxRecDepth 100000 in
/-- cut -/
theorem kx_cut (l : Launch) (D : va_G) {tys : List (ClassId × FieldType)} {cI : ClassId} (hty : tys[0]? = some (cI, .int)) (h0 hd hc hs : Nat) (wr : va_W) (dr ch st : Nat → Int32) (n rc : Nat) (A : Nat → Prop) (S : Nat → Nat) (hR : cn_S st rc S) (hn : n ≤ 2000) (k : Int32) : Met l yX0_cut wsX0_cut ({ frames := 0, cells := 0, slots := 0, locals := 0 }) (mu_Pc D vwCl (cn_W cI h0 hd hc hs wr dr ch st n rc) tys A [.ref h0, .int k]) (va_Qi (fun r w => cn_Ok cI h0 hd hc hs wr (sp_cut (sp_sl dr 0 n) k).1 (cn_rows ch S 1 rc) w ∧ r = (sp_cut (sp_sl dr 0 n) k).2) (mu_B D vwCl tys A) A) 0 0 A := by
  refine mu_of (cc := cX0_cut) (maxL := 3) (ret := some .int) (own := RX0) (by decide) rfl rfl (Nat.le_of_ble_eq_true rfl) ?_
  intro p e s m below meth c hx hb hr hts hown hlocks hml hP hK hD hS ls hl
  have hl : lv_has ls 3 [(0, .ref h0), (1, .int k)] := hl
  have hin0 : ∀ w ∈ u_ws RX0 TX0 5, w ∈ wsX0_cut := by decide +kernel
  have f13 := hts (.fieldLink RX0 13 "NameNumbers" "draftLength" "I") (by decide +kernel)
  have hP : va_P D vwCl (cn_W cI h0 hd hc hs wr dr ch st n rc) s.heap := hP
  refine lv_iload_n hx hb dX0_cut_0 rfl (lv_at hl 1 rfl) ?_
  refine lv_if_lt (tgt := 12) hx hb dX0_cut_1 (by decide) (fun c_1 => ?_) (fun c_1 => ?_)
  · refine lv_iconst (v := (-1)) hx hb dX0_cut_12 (by decide) ?_
    exact mu_iret hx hb hr hlocks hP hK hD hS (by rw [cn_cut_no (by first | exact Or.inl c_1 | (right; rw [sp_len]; exact nI_lt c_9 hx31))]; exact ⟨⟨dr, ch, st, n, rc, S, rfl, hn, hR, rfl, rfl⟩, rfl⟩) dX0_cut_13
  · obtain ⟨x, hx31, rfl⟩ := nI_of c_1
    refine lv_iload_n hx hb dX0_cut_4 rfl (lv_at hl 1 rfl) ?_
    refine lv_aload_n hx hb dX0_cut_5 rfl (lv_at hl 0 rfl) ?_
    refine va_get (D := D) (ci := 0) (v := .int (nI n)) (C := RX0) (T := TX0) (N := 5) hx hb hts hin0 hown hK hP 0 rfl rfl 1 (by decide) f13 (fun _ h9 => h9) rfl dX0_cut_6 ?_
    refine rn_icmp_le (tgt := 14) hx hb (by omega) (by omega) dX0_cut_9 (by decide) (fun c_9 => ?_) (fun c_9 => ?_)
    · refine lv_aload_n hx hb dX0_cut_14 rfl (lv_at hl 0 rfl) ?_
      refine va_get (D := D) (ci := 0) (v := .int (nI n)) (C := RX0) (T := TX0) (N := 5) hx hb hts hin0 hown hK hP 0 rfl rfl 1 (by decide) f13 (fun _ h9 => h9) rfl dX0_cut_15 ?_
      refine lv_istore_n (lv' := [(2, .int (nI n)), (0, .ref h0), (1, .int (nI x))]) hx hb dX0_cut_18 rfl hl (by decide) rfl (fun ls hl => ?_)
      refine lv_aload_n hx hb dX0_cut_19 rfl (lv_at hl 1 rfl) ?_
      refine lv_iload_n hx hb dX0_cut_20 rfl (lv_at hl 2 rfl) ?_
      refine va_put (D := D) (ci := 0) (v := .int (nI x)) (ty := .int) (C := RX0) (T := TX0) (N := 5) hx hb hts hin0 tyX0 tyX0_ok nmX0 hown hK hP hD hS 0 rfl rfl 1 (by decide) f13 (fun _ h9 => h9) rfl (by decide +kernel) rfl rfl (Nat.le_of_ble_eq_true rfl) dX0_cut_21 (fun H locs hP hD hS => ?_)
      have hP : va_P D vwCl ((h0, .inr (0, [.ref hd, .int (nI x), .ref hc, .ref hs, .int (nI rc)])) :: (hd, .inl (cI, 2000, .inl dr)) :: (hc, .inl (cI, 20000, .inl ch)) :: (hs, .inl (cI, 3002, .inl st)) :: wr) H := hP
      have hD : va_D A ((h0, .inr (0, [.ref hd, .int (nI x), .ref hc, .ref hs, .int (nI rc)])) :: (hd, .inl (cI, 2000, .inl dr)) :: (hc, .inl (cI, 20000, .inl ch)) :: (hs, .inl (cI, 3002, .inl st)) :: wr) := hD
      refine lv_iload_n hx hb dX0_cut_24 rfl (lv_at hl 0 rfl) ?_
      exact mu_iret hx hb hr hlocks hP hK hD hS (by rw [cn_cut_yes (by rw [sp_len]; exact c_9) (by rw [sp_len]; omega), sp_take _ _ _ _ c_9, sp_len]; exact ⟨⟨dr, ch, st, x, rc, S, rfl, by omega, hR, rfl, rfl⟩, rfl⟩) dX0_cut_25
    · refine lv_iconst (v := (-1)) hx hb dX0_cut_12 (by decide) ?_
      exact mu_iret hx hb hr hlocks hP hK hD hS (by rw [cn_cut_no (by first | exact Or.inl c_1 | (right; rw [sp_len]; exact nI_lt c_9 hx31))]; exact ⟨⟨dr, ch, st, n, rc, S, rfl, hn, hR, rfl, rfl⟩, rfl⟩) dX0_cut_13
set_option maxHeartbeats 4000000 in
set_option maxRecDepth 100000 in
/-- clear -/
theorem kx_clear (l : Launch) (D : va_G) {tys : List (ClassId × FieldType)} {cI : ClassId} (hty : tys[0]? = some (cI, .int)) (h0 hd hc hs : Nat) (wr : va_W) (dr ch st : Nat → Int32) (n rc : Nat) (A : Nat → Prop) (S : Nat → Nat) (hR : cn_S st rc S) (hn : n ≤ 2000) : Met l yX0_clear wsX0_clear ({ frames := 0, cells := 0, slots := 0, locals := 0 }) (mu_Pc D vwCl (cn_W cI h0 hd hc hs wr dr ch st n rc) tys A [.ref h0]) (va_Qi (fun r w => cn_Ok cI h0 hd hc hs wr (sp_sl dr 0 n) [] w ∧ r = nI (cn_rows ch S 1 rc).length) (mu_B D vwCl tys A) A) 0 0 A := by
  refine mu_of (cc := cX0_clear) (maxL := 2) (ret := some .int) (own := RX0) (by decide) rfl rfl (Nat.le_of_ble_eq_true rfl) ?_
  intro p e s m below meth c hx hb hr hts hown hlocks hml hP hK hD hS ls hl
  have hl : lv_has ls 2 [(0, .ref h0)] := hl
  have hin0 : ∀ w ∈ u_ws RX0 TX0 5, w ∈ wsX0_clear := by decide +kernel
  have f23 := hts (.fieldLink RX0 23 "NameNumbers" "rowCount" "I") (by decide +kernel)
  have hP : va_P D vwCl (cn_W cI h0 hd hc hs wr dr ch st n rc) s.heap := hP
  refine lv_aload_n hx hb dX0_clear_0 rfl (lv_at hl 0 rfl) ?_
  refine va_get (D := D) (ci := 0) (v := .int (nI rc)) (C := RX0) (T := TX0) (N := 5) hx hb hts hin0 hown hK hP 0 rfl rfl 4 (by decide) f23 (fun _ h9 => h9) rfl dX0_clear_1 ?_
  refine lv_istore_n (lv' := [(1, .int (nI rc)), (0, .ref h0)]) hx hb dX0_clear_4 rfl hl (by decide) rfl (fun ls hl => ?_)
  refine lv_aload_n hx hb dX0_clear_5 rfl (lv_at hl 1 rfl) ?_
  refine lv_iconst (v := nI 0) hx hb dX0_clear_6 (by decide) ?_
  refine va_put (D := D) (ci := 0) (v := .int (nI 0)) (ty := .int) (C := RX0) (T := TX0) (N := 5) hx hb hts hin0 tyX0 tyX0_ok nmX0 hown hK hP hD hS 0 rfl rfl 4 (by decide) f23 (fun _ h9 => h9) rfl (by decide +kernel) rfl rfl (Nat.le_of_ble_eq_true rfl) dX0_clear_7 (fun H locs hP hD hS => ?_)
  have hP : va_P D vwCl ((h0, .inr (0, [.ref hd, .int (nI n), .ref hc, .ref hs, .int (nI 0)])) :: (hd, .inl (cI, 2000, .inl dr)) :: (hc, .inl (cI, 20000, .inl ch)) :: (hs, .inl (cI, 3002, .inl st)) :: wr) H := hP
  have hD : va_D A ((h0, .inr (0, [.ref hd, .int (nI n), .ref hc, .ref hs, .int (nI 0)])) :: (hd, .inl (cI, 2000, .inl dr)) :: (hc, .inl (cI, 20000, .inl ch)) :: (hs, .inl (cI, 3002, .inl st)) :: wr) := hD
  refine lv_iload_n hx hb dX0_clear_10 rfl (lv_at hl 0 rfl) ?_
  exact mu_iret hx hb hr hlocks hP hK hD hS (⟨⟨dr, ch, st, n, 0, S, rfl, hn, cn_S_0 hR, rfl, rfl⟩, by rw [cn_rows_len]⟩) dX0_clear_11
set_option maxHeartbeats 4000000 in
set_option maxRecDepth 100000 in
/-- number -/
theorem kx_number (l : Launch) (D : va_G) {tys : List (ClassId × FieldType)} {cI : ClassId} (hty : tys[0]? = some (cI, .int)) (h0 hd hc hs : Nat) (wr : va_W) (dr ch st : Nat → Int32) (n rc : Nat) (A : Nat → Prop) (S : Nat → Nat) (hR : cn_S st rc S) (hn : n ≤ 2000) : Met l yX0_number wsX0_number ({ frames := 4, cells := 0, slots := 0, locals := 120 }) (mu_Pc D vwCl (cn_W cI h0 hd hc hs wr dr ch st n rc) tys A [.ref h0]) (va_Qi (fun r w => cn_Ok cI h0 hd hc hs wr (if r = -1 then (sp_sl dr 0 n) else []) (sp_numberOf (cn_rows ch S 1 rc) (sp_sl dr 0 n)).1 w ∧ r = (sp_numberOf (cn_rows ch S 1 rc) (sp_sl dr 0 n)).2) (mu_B D vwCl tys A) A) 0 0 A := by
  refine mu_of (cc := cX0_number) (maxL := 2) (ret := some .int) (own := RX0) (by decide) rfl rfl (Nat.le_of_ble_eq_true rfl) ?_
  intro p e s m below meth c hx hb hr hts hown hlocks hml hP hK hD hS ls hl
  have hl : lv_has ls 2 [(0, .ref h0)] := hl
  have hin0 : ∀ w ∈ u_ws RX0 TX0 5, w ∈ wsX0_number := by decide +kernel
  have f9 := hts (.fieldLink RX0 9 "NameNumbers" "draft" "[I") (by decide +kernel)
  have f13 := hts (.fieldLink RX0 13 "NameNumbers" "draftLength" "I") (by decide +kernel)
  have hP : va_P D vwCl (cn_W cI h0 hd hc hs wr dr ch st n rc) s.heap := hP
  refine lv_aload_n hx hb dX0_number_0 rfl (lv_at hl 0 rfl) ?_
  refine lv_aload_n hx hb dX0_number_1 rfl (lv_at hl 0 rfl) ?_
  refine va_get (D := D) (ci := 0) (v := .ref hd) (C := RX0) (T := TX0) (N := 5) hx hb hts hin0 hown hK hP 0 rfl rfl 0 (by decide) f9 (fun _ h9 => h9) rfl dX0_number_2 ?_
  refine lv_iconst (v := nI 0) hx hb dX0_number_5 (by decide) ?_
  refine lv_aload_n hx hb dX0_number_6 rfl (lv_at hl 0 rfl) ?_
  refine va_get (D := D) (ci := 0) (v := .int (nI n)) (C := RX0) (T := TX0) (N := 5) hx hb hts hin0 hown hK hP 0 rfl rfl 1 (by decide) f13 (fun _ h9 => h9) rfl dX0_number_7 ?_
  refine mu_calli (va_runV (As := [.ref hd, .int (nI 0), .int (nI n)]) (rest := []) ⟨hx, hb, hml, hown, hts⟩ (kx_numberOf l D hty h0 hd hc hs wr dr ch st n rc A S hR 1 hd 2000 dr rfl (by decide) 0 n (by omega)) (cwV 3 hts gX0_number_X0_numberOf rfl rfl rfl (by decide +kernel) ⟨Nat.le_of_ble_eq_true rfl, Nat.le_of_ble_eq_true rfl⟩) (mu_preV hK hP hD 0 rfl rfl) rfl rfl hl.1 rfl (lv_room (Nat.le_of_ble_eq_true rfl)) dX0_number_10 ⟨Nat.zero_le _, Nat.zero_le _⟩) hS (fun r10 w_10 H locs er10 hP hD hS => ?_)
  obtain ⟨ch', st', rc', S', rfl, hR', hsp⟩ := er10
  refine lv_istore_n (lv' := [(1, .int r10), (0, .ref h0)]) hx hb dX0_number_13 rfl hl (by decide) rfl (fun ls hl => ?_)
  refine lv_iload_n hx hb dX0_number_14 rfl (lv_at hl 0 rfl) ?_
  refine lv_iconst (v := (-1)) hx hb dX0_number_15 (by decide) ?_
  refine lv_icmp_eq (tgt := 24) hx hb dX0_number_16 (by decide) (fun c_16 => ?_) (fun c_16 => ?_)
  · refine lv_iload_n hx hb dX0_number_24 rfl (lv_at hl 0 rfl) ?_
    exact mu_iret hx hb hr hlocks hP hK hD hS (by rw [hsp]; first | exact ⟨⟨dr, ch', st', n, rc', S', rfl, hn, hR', if_pos c_16, rfl⟩, rfl⟩ | exact ⟨⟨dr, ch', st', 0, rc', S', rfl, Nat.zero_le _, hR', if_neg c_16, rfl⟩, rfl⟩) dX0_number_25
  · refine lv_aload_n hx hb dX0_number_19 rfl (lv_at hl 1 rfl) ?_
    refine lv_iconst (v := nI 0) hx hb dX0_number_20 (by decide) ?_
    refine va_put (D := D) (ci := 0) (v := .int (nI 0)) (ty := .int) (C := RX0) (T := TX0) (N := 5) hx hb hts hin0 tyX0 tyX0_ok nmX0 hown hK hP hD hS 0 rfl rfl 1 (by decide) f13 (fun _ h9 => h9) rfl (by decide +kernel) rfl rfl (Nat.le_of_ble_eq_true rfl) dX0_number_21 (fun H locs hP hD hS => ?_)
    have hP : va_P D vwCl ((h0, .inr (0, [.ref hd, .int (nI 0), .ref hc, .ref hs, .int (nI rc')])) :: (hd, .inl (cI, 2000, .inl dr)) :: (hc, .inl (cI, 20000, .inl ch')) :: (hs, .inl (cI, 3002, .inl st')) :: wr) H := hP
    have hD : va_D A ((h0, .inr (0, [.ref hd, .int (nI 0), .ref hc, .ref hs, .int (nI rc')])) :: (hd, .inl (cI, 2000, .inl dr)) :: (hc, .inl (cI, 20000, .inl ch')) :: (hs, .inl (cI, 3002, .inl st')) :: wr) := hD
    refine lv_iload_n hx hb dX0_number_24 rfl (lv_at hl 0 rfl) ?_
    exact mu_iret hx hb hr hlocks hP hK hD hS (by rw [hsp]; first | exact ⟨⟨dr, ch', st', n, rc', S', rfl, hn, hR', if_pos c_16, rfl⟩, rfl⟩ | exact ⟨⟨dr, ch', st', 0, rc', S', rfl, Nat.zero_le _, hR', if_neg c_16, rfl⟩, rfl⟩) dX0_number_25
set_option maxHeartbeats 4000000 in
set_option maxRecDepth 100000 in
/-- take -/
theorem kx_take (l : Launch) (D : va_G) {tys : List (ClassId × FieldType)} {cI : ClassId} (hty : tys[0]? = some (cI, .int)) (h0 hd hc hs : Nat) (wr : va_W) (dr ch st : Nat → Int32) (n rc : Nat) (A : Nat → Prop) (S : Nat → Nat) (hR : cn_S st rc S) (hn : n ≤ 2000) (k : Int32) : Met l yX0_take wsX0_take ({ frames := 1, cells := 0, slots := 0, locals := 60 }) (mu_Pc D vwCl (cn_W cI h0 hd hc hs wr dr ch st n rc) tys A [.ref h0, .int k]) (va_Qi (fun r w => cn_Ok cI h0 hd hc hs wr (sp_take_ (cn_rows ch S 1 rc) (sp_sl dr 0 n) k).1 (cn_rows ch S 1 rc) w ∧ r = (sp_take_ (cn_rows ch S 1 rc) (sp_sl dr 0 n) k).2) (mu_B D vwCl tys A) A) 0 0 A := by
  refine mu_of (cc := cX0_take) (maxL := 3) (ret := some .int) (own := RX0) (by decide) rfl rfl (Nat.le_of_ble_eq_true rfl) ?_
  intro p e s m below meth c hx hb hr hts hown hlocks hml hP hK hD hS ls hl
  have hl : lv_has ls 3 [(0, .ref h0), (1, .int k)] := hl
  have hin0 : ∀ w ∈ u_ws RX0 TX0 5, w ∈ wsX0_take := by decide +kernel
  have f9 := hts (.fieldLink RX0 9 "NameNumbers" "draft" "[I") (by decide +kernel)
  have f13 := hts (.fieldLink RX0 13 "NameNumbers" "draftLength" "I") (by decide +kernel)
  have f17 := hts (.fieldLink RX0 17 "NameNumbers" "characters" "[I") (by decide +kernel)
  have f20 := hts (.fieldLink RX0 20 "NameNumbers" "starts" "[I") (by decide +kernel)
  have hP : va_P D vwCl (cn_W cI h0 hd hc hs wr dr ch st n rc) s.heap := hP
  refine lv_aload_n hx hb dX0_take_0 rfl (lv_at hl 0 rfl) ?_
  refine lv_iload_n hx hb dX0_take_1 rfl (lv_at hl 1 rfl) ?_
  refine vp_callSi (W.runV (As := [.int k]) (rest := []) ⟨hx, hb, hml, hown, hts⟩ (kx_isRow l D hty h0 hd hc hs wr dr ch st n rc hR.2.2.2.2 k) (cwV 1 hts gX0_take_X0_isRow rfl rfl rfl (by decide +kernel) ⟨Nat.le_of_ble_eq_true rfl, Nat.le_of_ble_eq_true rfl⟩) (pu_preV hK hP 0 rfl rfl) rfl rfl hl.1 rfl (lv_room (Nat.le_of_ble_eq_true rfl)) dX0_take_2 ⟨Nat.zero_le _, Nat.zero_le _⟩) (fun r2 er2 => ?_)
  rcases er2 with ⟨er2, hk_k⟩ | ⟨er2, hk_k⟩
  · subst er2
    obtain ⟨k', h1_k, h2_k, rfl⟩ := hk_k
    have hw_k := cn_row_yes (ch := ch) hR h1_k h2_k
    refine lv_if_ne (tgt := 10) hx hb dX0_take_5 (by decide) (fun c_5 => ?_) (fun c_5 => absurd c_5 (by decide))
    refine lv_aload_n hx hb dX0_take_10 rfl (lv_at hl 0 rfl) ?_
    refine lv_iload_n hx hb dX0_take_11 rfl (lv_at hl 1 rfl) ?_
    refine vp_callSi (W.runV (As := [.int (nI k')]) (rest := []) ⟨hx, hb, hml, hown, hts⟩ (kx_lengthOf l D hty h0 hd hc hs wr dr ch st n rc S hR k' (by omega) (by omega)) (cwV 1 hts gX0_take_X0_lengthOf rfl rfl rfl (by decide +kernel) ⟨Nat.le_of_ble_eq_true rfl, Nat.le_of_ble_eq_true rfl⟩) (pu_preV hK hP 0 rfl rfl) rfl rfl hl.1 rfl (lv_room (Nat.le_of_ble_eq_true rfl)) dX0_take_12 ⟨Nat.zero_le _, Nat.zero_le _⟩) (fun r12 er12 => ?_)
    subst er12
    refine lv_istore_n (lv' := [(2, .int (nI (S (k' + 1) - S k'))), (0, .ref h0), (1, .int (nI k'))]) hx hb dX0_take_15 rfl hl (by decide) rfl (fun ls hl => ?_)
    refine lv_iload_n hx hb dX0_take_16 rfl (lv_at hl 0 rfl) ?_
    refine lv_sipush (v := nI 2000) hx hb dX0_take_17 (by decide) ?_
    refine lv_aload_n hx hb dX0_take_20 rfl (lv_at hl 1 rfl) ?_
    refine va_get (D := D) (ci := 0) (v := .int (nI n)) (C := RX0) (T := TX0) (N := 5) hx hb hts hin0 hown hK hP 0 rfl rfl 1 (by decide) f13 (fun _ h9 => h9) rfl dX0_take_21 ?_
    refine rn_isub hx hb (by omega) dX0_take_24 ?_
    refine rn_icmp_le (tgt := 30) hx hb (by have := cn_top hR (k := k' + 1) (by omega) (by omega); omega) (by have := cn_top hR (k := k' + 1) (by omega) (by omega); omega) dX0_take_25 (by decide) (fun c_25 => ?_) (fun c_25 => ?_)
    · refine lv_aload_n hx hb dX0_take_30 rfl (lv_at hl 1 rfl) ?_
      refine va_get (D := D) (ci := 0) (v := .ref hc) (C := RX0) (T := TX0) (N := 5) hx hb hts hin0 hown hK hP 0 rfl rfl 2 (by decide) f17 (fun _ h9 => h9) rfl dX0_take_31 ?_
      refine lv_aload_n hx hb dX0_take_34 rfl (lv_at hl 1 rfl) ?_
      refine va_get (D := D) (ci := 0) (v := .ref hs) (C := RX0) (T := TX0) (N := 5) hx hb hts hin0 hown hK hP 0 rfl rfl 3 (by decide) f20 (fun _ h9 => h9) rfl dX0_take_35 ?_
      refine lv_iload_n hx hb dX0_take_38 rfl (lv_at hl 2 rfl) ?_
      refine rn_ald (v := nI (S k')) hx hb hK hP 3 0 rfl hty (by have := hR.2.2.2.2; omega) (by decide) (hR.2.1 _ (by omega) (by omega)) dX0_take_39 ?_
      refine lv_aload_n hx hb dX0_take_40 rfl (lv_at hl 1 rfl) ?_
      refine va_get (D := D) (ci := 0) (v := .ref hd) (C := RX0) (T := TX0) (N := 5) hx hb hts hin0 hown hK hP 0 rfl rfl 0 (by decide) f9 (fun _ h9 => h9) rfl dX0_take_41 ?_
      refine lv_aload_n hx hb dX0_take_44 rfl (lv_at hl 1 rfl) ?_
      refine va_get (D := D) (ci := 0) (v := .int (nI n)) (C := RX0) (T := TX0) (N := 5) hx hb hts hin0 hown hK hP 0 rfl rfl 1 (by decide) f13 (fun _ h9 => h9) rfl dX0_take_45 ?_
      refine lv_iload_n hx hb dX0_take_48 rfl (lv_at hl 0 rfl) ?_
      refine rn_copy hx hb (hml.trans hl.1.symm) hown (hts (.methodLink RX0 42 arraycopyName) (by decide +kernel)) (hts (.native arraycopyName) (by decide +kernel)) (hts (.static arraycopyName) (by decide +kernel)) (hts (.initialized "java/lang/System") (by decide +kernel)) hK hP hD hS 2 1 0 0 rfl rfl hty hty (by have := cn_top hR (k := k' + 1) (by omega) (by omega); have := hR.2.2.1 k' h1_k h2_k; omega) (by omega) (by decide) (by decide) (Nat.le_of_ble_eq_true rfl) (Nat.le_of_ble_eq_true rfl) dX0_take_49 (fun H locs hP hD hS => ?_)
      have hP : va_P D vwCl ((h0, .inr (0, [.ref hd, .int (nI n), .ref hc, .ref hs, .int (nI rc)])) :: (hd, .inl (cI, 2000, .inl (va_cpy ch dr (S k') n (S (k' + 1) - S k')))) :: (hc, .inl (cI, 20000, .inl ch)) :: (hs, .inl (cI, 3002, .inl st)) :: wr) H := hP
      have hD : va_D A ((h0, .inr (0, [.ref hd, .int (nI n), .ref hc, .ref hs, .int (nI rc)])) :: (hd, .inl (cI, 2000, .inl (va_cpy ch dr (S k') n (S (k' + 1) - S k')))) :: (hc, .inl (cI, 20000, .inl ch)) :: (hs, .inl (cI, 3002, .inl st)) :: wr) := hD
      refine lv_aload_n hx hb dX0_take_52 rfl (lv_at hl 1 rfl) ?_
      refine lv_dup hx hb dX0_take_53 rfl ?_
      refine va_get (D := D) (ci := 0) (v := .int (nI n)) (C := RX0) (T := TX0) (N := 5) hx hb hts hin0 hown hK hP 0 rfl rfl 1 (by decide) f13 (fun _ h9 => h9) rfl dX0_take_54 ?_
      refine lv_iload_n hx hb dX0_take_57 rfl (lv_at hl 0 rfl) ?_
      refine rn_iadd hx hb dX0_take_58 ?_
      refine va_put (D := D) (ci := 0) (v := .int (nI (n + (S (k' + 1) - S k')))) (ty := .int) (C := RX0) (T := TX0) (N := 5) hx hb hts hin0 tyX0 tyX0_ok nmX0 hown hK hP hD hS 0 rfl rfl 1 (by decide) f13 (fun _ h9 => h9) rfl (by decide +kernel) rfl rfl (Nat.le_of_ble_eq_true rfl) dX0_take_59 (fun H locs hP hD hS => ?_)
      have hP : va_P D vwCl ((h0, .inr (0, [.ref hd, .int (nI (n + (S (k' + 1) - S k'))), .ref hc, .ref hs, .int (nI rc)])) :: (hd, .inl (cI, 2000, .inl (va_cpy ch dr (S k') n (S (k' + 1) - S k')))) :: (hc, .inl (cI, 20000, .inl ch)) :: (hs, .inl (cI, 3002, .inl st)) :: wr) H := hP
      have hD : va_D A ((h0, .inr (0, [.ref hd, .int (nI (n + (S (k' + 1) - S k'))), .ref hc, .ref hs, .int (nI rc)])) :: (hd, .inl (cI, 2000, .inl (va_cpy ch dr (S k') n (S (k' + 1) - S k')))) :: (hc, .inl (cI, 20000, .inl ch)) :: (hs, .inl (cI, 3002, .inl st)) :: wr) := hD
      refine lv_aload_n hx hb dX0_take_62 rfl (lv_at hl 1 rfl) ?_
      refine va_get (D := D) (ci := 0) (v := .int (nI (n + (S (k' + 1) - S k')))) (C := RX0) (T := TX0) (N := 5) hx hb hts hin0 hown hK hP 0 rfl rfl 1 (by decide) f13 (fun _ h9 => h9) rfl dX0_take_63 ?_
      exact mu_iret hx hb hr hlocks hP hK hD hS (by rw [cn_tk_some hw_k, if_neg (by rw [sp_len, cn_row, sp_len]; omega)]; exact ⟨⟨_, ch, st, n + (S (k' + 1) - S k'), rc, S, rfl, by omega, hR, cn_tk, rfl⟩, by rw [sp_len, cn_row, sp_len]⟩) dX0_take_66
    · refine lv_iconst (v := (-1)) hx hb dX0_take_28 (by decide) ?_
      exact mu_iret hx hb hr hlocks hP hK hD hS (by rw [cn_tk_some hw_k, if_pos (by rw [sp_len, cn_row, sp_len]; omega)]; exact ⟨⟨dr, ch, st, n, rc, S, rfl, hn, hR, rfl, rfl⟩, rfl⟩) dX0_take_29
  · subst er2
    have hw_k := cn_row_no (ch := ch) hR hk_k
    refine lv_if_ne (tgt := 10) hx hb dX0_take_5 (by decide) (fun c_5 => absurd c_5 (not_not_intro (by decide))) (fun c_5 => ?_)
    refine lv_iconst (v := (-1)) hx hb dX0_take_8 (by decide) ?_
    exact mu_iret hx hb hr hlocks hP hK hD hS (by rw [sp_take_, hw_k]; exact ⟨⟨dr, ch, st, n, rc, S, rfl, hn, hR, rfl, rfl⟩, rfl⟩) dX0_take_9
set_option maxHeartbeats 4000000 in
set_option maxRecDepth 100000 in
/-- part -/
theorem kx_part (l : Launch) (D : va_G) {tys : List (ClassId × FieldType)} {cI : ClassId} (hty : tys[0]? = some (cI, .int)) (h0 hd hc hs : Nat) (wr : va_W) (dr ch st : Nat → Int32) (n rc : Nat) (A : Nat → Prop) (S : Nat → Nat) (hR : cn_S st rc S) (hn : n ≤ 2000) (k i g : Int32) : Met l yX0_part wsX0_part ({ frames := 4, cells := 0, slots := 0, locals := 120 }) (mu_Pc D vwCl (cn_W cI h0 hd hc hs wr dr ch st n rc) tys A [.ref h0, .int k, .int i, .int g]) (va_Qi (fun r w => cn_Ok cI h0 hd hc hs wr (sp_sl dr 0 n) (sp_part (cn_rows ch S 1 rc) k i g).1 w ∧ r = (sp_part (cn_rows ch S 1 rc) k i g).2) (mu_B D vwCl tys A) A) 0 0 A := by
  refine mu_of (cc := cX0_part) (maxL := 5) (ret := some .int) (own := RX0) (by decide) rfl rfl (Nat.le_of_ble_eq_true rfl) ?_
  intro p e s m below meth c hx hb hr hts hown hlocks hml hP hK hD hS ls hl
  have hl : lv_has ls 5 [(0, .ref h0), (1, .int k), (2, .int i), (3, .int g)] := hl
  have hin0 : ∀ w ∈ u_ws RX0 TX0 5, w ∈ wsX0_part := by decide +kernel
  have f17 := hts (.fieldLink RX0 17 "NameNumbers" "characters" "[I") (by decide +kernel)
  have f20 := hts (.fieldLink RX0 20 "NameNumbers" "starts" "[I") (by decide +kernel)
  have hP : va_P D vwCl (cn_W cI h0 hd hc hs wr dr ch st n rc) s.heap := hP
  refine lv_aload_n hx hb dX0_part_0 rfl (lv_at hl 0 rfl) ?_
  refine lv_iload_n hx hb dX0_part_1 rfl (lv_at hl 1 rfl) ?_
  refine vp_callSi (W.runV (As := [.int k]) (rest := []) ⟨hx, hb, hml, hown, hts⟩ (kx_isRow l D hty h0 hd hc hs wr dr ch st n rc hR.2.2.2.2 k) (cwV 1 hts gX0_part_X0_isRow rfl rfl rfl (by decide +kernel) ⟨Nat.le_of_ble_eq_true rfl, Nat.le_of_ble_eq_true rfl⟩) (pu_preV hK hP 0 rfl rfl) rfl rfl hl.1 rfl (lv_room (Nat.le_of_ble_eq_true rfl)) dX0_part_2 ⟨Nat.zero_le _, Nat.zero_le _⟩) (fun r2 er2 => ?_)
  rcases er2 with ⟨er2, hk_k⟩ | ⟨er2, hk_k⟩
  · subst er2
    obtain ⟨k', h1_k, h2_k, rfl⟩ := hk_k
    have hw_k := cn_row_yes (ch := ch) hR h1_k h2_k
    refine lv_if_ne (tgt := 10) hx hb dX0_part_5 (by decide) (fun c_5 => ?_) (fun c_5 => absurd c_5 (by decide))
    refine lv_aload_n hx hb dX0_part_10 rfl (lv_at hl 0 rfl) ?_
    refine lv_iload_n hx hb dX0_part_11 rfl (lv_at hl 1 rfl) ?_
    refine vp_callSi (W.runV (As := [.int (nI k')]) (rest := []) ⟨hx, hb, hml, hown, hts⟩ (kx_lengthOf l D hty h0 hd hc hs wr dr ch st n rc S hR k' (by omega) (by omega)) (cwV 1 hts gX0_part_X0_lengthOf rfl rfl rfl (by decide +kernel) ⟨Nat.le_of_ble_eq_true rfl, Nat.le_of_ble_eq_true rfl⟩) (pu_preV hK hP 0 rfl rfl) rfl rfl hl.1 rfl (lv_room (Nat.le_of_ble_eq_true rfl)) dX0_part_12 ⟨Nat.zero_le _, Nat.zero_le _⟩) (fun r12 er12 => ?_)
    subst er12
    refine lv_istore (lv' := [(4, .int (nI (S (k' + 1) - S k'))), (0, .ref h0), (1, .int (nI k')), (2, .int i), (3, .int g)]) hx hb dX0_part_15 hl (by decide) rfl (fun ls hl => ?_)
    refine lv_iload_n hx hb dX0_part_17 rfl (lv_at hl 3 rfl) ?_
    refine lv_if_lt (tgt := 39) hx hb dX0_part_18 (by decide) (fun c_18 => ?_) (fun c_18 => ?_)
    · refine lv_iconst (v := (-1)) hx hb dX0_part_39 (by decide) ?_
      exact mu_iret hx hb hr hlocks hP hK hD hS (by rw [cn_pt_some hw_k, if_pos (by rw [cn_row, sp_len]; first | exact Or.inl c_18 | exact Or.inr (Or.inl (nI_lt c_24 hx31)) | exact Or.inr (Or.inr (Or.inl c_28)) | exact Or.inr (Or.inr (Or.inr (by rw [nI_clamp hx31]; exact nI_lt c_36 hy31))))]; exact ⟨⟨dr, ch, st, n, rc, S, rfl, hn, hR, rfl, rfl⟩, rfl⟩) dX0_part_40
    · obtain ⟨x, hx31, rfl⟩ := nI_of c_18
      refine lv_iload_n hx hb dX0_part_21 rfl (lv_at hl 3 rfl) ?_
      refine lv_iload hx hb dX0_part_22 (lv_at hl 0 rfl) ?_
      refine rn_icmp_gt (tgt := 39) hx hb (by have := cn_top hR (k := k' + 1) (by omega) (by omega); omega) (by have := cn_top hR (k := k' + 1) (by omega) (by omega); omega) dX0_part_24 (by decide) (fun c_24 => ?_) (fun c_24 => ?_)
      · refine lv_iconst (v := (-1)) hx hb dX0_part_39 (by decide) ?_
        exact mu_iret hx hb hr hlocks hP hK hD hS (by rw [cn_pt_some hw_k, if_pos (by rw [cn_row, sp_len]; first | exact Or.inl c_18 | exact Or.inr (Or.inl (nI_lt c_24 hx31)) | exact Or.inr (Or.inr (Or.inl c_28)) | exact Or.inr (Or.inr (Or.inr (by rw [nI_clamp hx31]; exact nI_lt c_36 hy31))))]; exact ⟨⟨dr, ch, st, n, rc, S, rfl, hn, hR, rfl, rfl⟩, rfl⟩) dX0_part_40
      · refine lv_iload_n hx hb dX0_part_27 rfl (lv_at hl 4 rfl) ?_
        refine lv_if_lt (tgt := 39) hx hb dX0_part_28 (by decide) (fun c_28 => ?_) (fun c_28 => ?_)
        · refine lv_iconst (v := (-1)) hx hb dX0_part_39 (by decide) ?_
          exact mu_iret hx hb hr hlocks hP hK hD hS (by rw [cn_pt_some hw_k, if_pos (by rw [cn_row, sp_len]; first | exact Or.inl c_18 | exact Or.inr (Or.inl (nI_lt c_24 hx31)) | exact Or.inr (Or.inr (Or.inl c_28)) | exact Or.inr (Or.inr (Or.inr (by rw [nI_clamp hx31]; exact nI_lt c_36 hy31))))]; exact ⟨⟨dr, ch, st, n, rc, S, rfl, hn, hR, rfl, rfl⟩, rfl⟩) dX0_part_40
        · obtain ⟨y, hy31, rfl⟩ := nI_of c_28
          refine lv_iload_n hx hb dX0_part_31 rfl (lv_at hl 4 rfl) ?_
          refine lv_iload hx hb dX0_part_32 (lv_at hl 0 rfl) ?_
          refine lv_iload_n hx hb dX0_part_34 rfl (lv_at hl 3 rfl) ?_
          refine rn_isub hx hb (by omega) dX0_part_35 ?_
          refine rn_icmp_le (tgt := 41) hx hb (by have := cn_top hR (k := k' + 1) (by omega) (by omega); omega) (by have := cn_top hR (k := k' + 1) (by omega) (by omega); omega) dX0_part_36 (by decide) (fun c_36 => ?_) (fun c_36 => ?_)
          · refine lv_aload_n hx hb dX0_part_41 rfl (lv_at hl 1 rfl) ?_
            refine lv_aload_n hx hb dX0_part_42 rfl (lv_at hl 1 rfl) ?_
            refine va_get (D := D) (ci := 0) (v := .ref hc) (C := RX0) (T := TX0) (N := 5) hx hb hts hin0 hown hK hP 0 rfl rfl 2 (by decide) f17 (fun _ h9 => h9) rfl dX0_part_43 ?_
            refine lv_aload_n hx hb dX0_part_46 rfl (lv_at hl 1 rfl) ?_
            refine va_get (D := D) (ci := 0) (v := .ref hs) (C := RX0) (T := TX0) (N := 5) hx hb hts hin0 hown hK hP 0 rfl rfl 3 (by decide) f20 (fun _ h9 => h9) rfl dX0_part_47 ?_
            refine lv_iload_n hx hb dX0_part_50 rfl (lv_at hl 2 rfl) ?_
            refine rn_ald (v := nI (S k')) hx hb hK hP 3 0 rfl hty (by have := hR.2.2.2.2; omega) (by decide) (hR.2.1 _ (by omega) (by omega)) dX0_part_51 ?_
            refine lv_iload_n hx hb dX0_part_52 rfl (lv_at hl 3 rfl) ?_
            refine rn_iadd hx hb dX0_part_53 ?_
            refine lv_iload_n hx hb dX0_part_54 rfl (lv_at hl 4 rfl) ?_
            have htk := cn_top hR (k := k' + 1) (by omega) (by omega)
            have hlk := hR.2.2.1 k' h1_k h2_k
            refine mu_calli (va_runV (As := [.ref hc, .int (nI (S k' + x)), .int (nI y)]) (rest := []) ⟨hx, hb, hml, hown, hts⟩ (kx_numberOf l D hty h0 hd hc hs wr dr ch st n rc A S hR 2 hc 20000 ch rfl (by decide) (S k' + x) y (by omega)) (cwV 3 hts gX0_part_X0_numberOf rfl rfl rfl (by decide +kernel) ⟨Nat.le_of_ble_eq_true rfl, Nat.le_of_ble_eq_true rfl⟩) (mu_preV hK hP hD 0 rfl rfl) rfl rfl hl.1 rfl (lv_room (Nat.le_of_ble_eq_true rfl)) dX0_part_55 ⟨Nat.zero_le _, Nat.zero_le _⟩) hS (fun r55 w_55 H locs er55 hP hD hS => ?_)
            obtain ⟨ch', st', rc', S', rfl, hR', hsp⟩ := er55
            exact mu_iret hx hb hr hlocks hP hK hD hS (by rw [cn_pt_some hw_k, if_neg (cn_pt_no c_18 c_28 hx31 hy31 c_24 c_36 (by omega)), cn_pt_row hx31 hy31 c_24 c_36, hsp]; exact ⟨⟨dr, ch', st', n, rc', S', rfl, hn, hR', rfl, rfl⟩, rfl⟩) dX0_part_58
          · refine lv_iconst (v := (-1)) hx hb dX0_part_39 (by decide) ?_
            exact mu_iret hx hb hr hlocks hP hK hD hS (by rw [cn_pt_some hw_k, if_pos (by rw [cn_row, sp_len]; first | exact Or.inl c_18 | exact Or.inr (Or.inl (nI_lt c_24 hx31)) | exact Or.inr (Or.inr (Or.inl c_28)) | exact Or.inr (Or.inr (Or.inr (by rw [nI_clamp hx31]; exact nI_lt c_36 hy31))))]; exact ⟨⟨dr, ch, st, n, rc, S, rfl, hn, hR, rfl, rfl⟩, rfl⟩) dX0_part_40
  · subst er2
    have hw_k := cn_row_no (ch := ch) hR hk_k
    refine lv_if_ne (tgt := 10) hx hb dX0_part_5 (by decide) (fun c_5 => absurd c_5 (not_not_intro (by decide))) (fun c_5 => ?_)
    refine lv_iconst (v := (-1)) hx hb dX0_part_8 (by decide) ?_
    exact mu_iret hx hb hr hlocks hP hK hD hS (by rw [sp_part, hw_k]; exact ⟨⟨dr, ch, st, n, rc, S, rfl, hn, hR, rfl, rfl⟩, rfl⟩) dX0_part_9
