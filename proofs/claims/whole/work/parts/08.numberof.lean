set_option maxHeartbeats 4000000 in
set_option maxRecDepth 100000 in
/-- add -/
theorem kx_add (l : Launch) (D : va_G) {tys : List (ClassId × FieldType)} {cI : ClassId} (hty : tys[0]? = some (cI, .int)) (h0 hd hc hs : Nat) (wr : va_W) (dr ch st : Nat → Int32) (n rc : Nat) (A : Nat → Prop) (S : Nat → Nat) (hR : cn_S st rc S) (qs a N2 : Nat) (f : Nat → Int32) (hq : (cn_W cI h0 hd hc hs wr dr ch st n rc)[qs]? = some (a, .inl (cI, N2, .inl f))) (hN : N2 ≤ 20000) (b0 n2 : Nat) (hb0 : b0 + n2 ≤ N2) (hrc : rc < 3000) (hsp : n2 + S (rc + 1) ≤ 20000) : Met l yX0_add wsX0_add ({ frames := 1, cells := 0, slots := 0, locals := 60 }) (mu_Pc D vwCl (cn_W cI h0 hd hc hs wr dr ch st n rc) tys A [.ref h0, .ref a, .int (nI b0), .int (nI n2)]) (va_Qi (fun r w => r = nI (rc + 1) ∧ w = cn_W cI h0 hd hc hs wr dr (va_cpy f ch b0 (S (rc + 1)) n2) (upd st (rc + 1 + 1) (nI (S (rc + 1) + n2))) n (rc + 1)) (mu_B D vwCl tys A) A) 0 0 A := by
  refine mu_of (cc := cX0_add) (maxL := 5) (ret := some .int) (own := RX0) (by decide) rfl rfl (Nat.le_of_ble_eq_true rfl) ?_
  intro p e s m below meth c hx hb hr hts hown hlocks hml hP hK hD hS ls hl
  have hl : lv_has ls 5 [(0, .ref h0), (1, .ref a), (2, .int (nI b0)), (3, .int (nI n2))] := hl
  have hin0 : ∀ w ∈ u_ws RX0 TX0 5, w ∈ wsX0_add := by decide +kernel
  have f17 := hts (.fieldLink RX0 17 "NameNumbers" "characters" "[I") (by decide +kernel)
  have f20 := hts (.fieldLink RX0 20 "NameNumbers" "starts" "[I") (by decide +kernel)
  have f23 := hts (.fieldLink RX0 23 "NameNumbers" "rowCount" "I") (by decide +kernel)
  have hP : va_P D vwCl (cn_W cI h0 hd hc hs wr dr ch st n rc) s.heap := hP
  refine lv_aload_n hx hb dX0_add_0 rfl (lv_at hl 0 rfl) ?_
  refine va_get (D := D) (ci := 0) (v := .ref hs) (C := RX0) (T := TX0) (N := 5) hx hb hts hin0 hown hK hP 0 rfl rfl 3 (by decide) f20 (fun _ h9 => h9) rfl dX0_add_1 ?_
  refine lv_aload_n hx hb dX0_add_4 rfl (lv_at hl 0 rfl) ?_
  refine va_get (D := D) (ci := 0) (v := .int (nI rc)) (C := RX0) (T := TX0) (N := 5) hx hb hts hin0 hown hK hP 0 rfl rfl 4 (by decide) f23 (fun _ h9 => h9) rfl dX0_add_5 ?_
  refine lv_iconst (v := nI 1) hx hb dX0_add_8 (by decide) ?_
  refine rn_iadd hx hb dX0_add_9 ?_
  refine rn_ald (v := nI (S (rc + 1))) hx hb hK hP 3 0 rfl hty (by omega) (by decide) (hR.2.1 _ (by omega) (by omega)) dX0_add_10 ?_
  refine lv_istore (lv' := [(4, .int (nI (S (rc + 1)))), (0, .ref h0), (1, .ref a), (2, .int (nI b0)), (3, .int (nI n2))]) hx hb dX0_add_11 hl (by decide) rfl (fun ls hl => ?_)
  refine lv_aload_n hx hb dX0_add_13 rfl (lv_at hl 2 rfl) ?_
  refine lv_iload_n hx hb dX0_add_14 rfl (lv_at hl 3 rfl) ?_
  refine lv_aload_n hx hb dX0_add_15 rfl (lv_at hl 1 rfl) ?_
  refine va_get (D := D) (ci := 0) (v := .ref hc) (C := RX0) (T := TX0) (N := 5) hx hb hts hin0 hown hK hP 0 rfl rfl 2 (by decide) f17 (fun _ h9 => h9) rfl dX0_add_16 ?_
  refine lv_iload hx hb dX0_add_19 (lv_at hl 0 rfl) ?_
  refine lv_iload_n hx hb dX0_add_21 rfl (lv_at hl 4 rfl) ?_
  refine rn_copy hx hb (hml.trans hl.1.symm) hown (hts (.methodLink RX0 42 arraycopyName) (by decide +kernel)) (hts (.native arraycopyName) (by decide +kernel)) (hts (.static arraycopyName) (by decide +kernel)) (hts (.initialized "java/lang/System") (by decide +kernel)) hK hP hD hS qs 2 0 0 hq rfl hty hty (by omega) (by omega) (by omega) (by decide) (Nat.le_of_ble_eq_true rfl) (Nat.le_of_ble_eq_true rfl) dX0_add_22 (fun H locs hP hD hS => ?_)
  have hP : va_P D vwCl ((h0, .inr (0, [.ref hd, .int (nI n), .ref hc, .ref hs, .int (nI rc)])) :: (hd, .inl (cI, 2000, .inl dr)) :: (hc, .inl (cI, 20000, .inl (va_cpy f ch b0 (S (rc + 1)) n2))) :: (hs, .inl (cI, 3002, .inl st)) :: wr) H := hP
  have hD : va_D A ((h0, .inr (0, [.ref hd, .int (nI n), .ref hc, .ref hs, .int (nI rc)])) :: (hd, .inl (cI, 2000, .inl dr)) :: (hc, .inl (cI, 20000, .inl (va_cpy f ch b0 (S (rc + 1)) n2))) :: (hs, .inl (cI, 3002, .inl st)) :: wr) := hD
  refine lv_aload_n hx hb dX0_add_25 rfl (lv_at hl 1 rfl) ?_
  refine lv_dup hx hb dX0_add_26 rfl ?_
  refine va_get (D := D) (ci := 0) (v := .int (nI rc)) (C := RX0) (T := TX0) (N := 5) hx hb hts hin0 hown hK hP 0 rfl rfl 4 (by decide) f23 (fun _ h9 => h9) rfl dX0_add_27 ?_
  refine lv_iconst (v := nI 1) hx hb dX0_add_30 (by decide) ?_
  refine rn_iadd hx hb dX0_add_31 ?_
  refine va_put (D := D) (ci := 0) (v := .int (nI (rc + 1))) (ty := .int) (C := RX0) (T := TX0) (N := 5) hx hb hts hin0 tyX0 tyX0_ok nmX0 hown hK hP hD hS 0 rfl rfl 4 (by decide) f23 (fun _ h9 => h9) rfl (by decide +kernel) rfl rfl (Nat.le_of_ble_eq_true rfl) dX0_add_32 (fun H locs hP hD hS => ?_)
  have hP : va_P D vwCl ((h0, .inr (0, [.ref hd, .int (nI n), .ref hc, .ref hs, .int (nI (rc + 1))])) :: (hd, .inl (cI, 2000, .inl dr)) :: (hc, .inl (cI, 20000, .inl (va_cpy f ch b0 (S (rc + 1)) n2))) :: (hs, .inl (cI, 3002, .inl st)) :: wr) H := hP
  have hD : va_D A ((h0, .inr (0, [.ref hd, .int (nI n), .ref hc, .ref hs, .int (nI (rc + 1))])) :: (hd, .inl (cI, 2000, .inl dr)) :: (hc, .inl (cI, 20000, .inl (va_cpy f ch b0 (S (rc + 1)) n2))) :: (hs, .inl (cI, 3002, .inl st)) :: wr) := hD
  refine lv_aload_n hx hb dX0_add_35 rfl (lv_at hl 1 rfl) ?_
  refine va_get (D := D) (ci := 0) (v := .ref hs) (C := RX0) (T := TX0) (N := 5) hx hb hts hin0 hown hK hP 0 rfl rfl 3 (by decide) f20 (fun _ h9 => h9) rfl dX0_add_36 ?_
  refine lv_aload_n hx hb dX0_add_39 rfl (lv_at hl 1 rfl) ?_
  refine va_get (D := D) (ci := 0) (v := .int (nI (rc + 1))) (C := RX0) (T := TX0) (N := 5) hx hb hts hin0 hown hK hP 0 rfl rfl 4 (by decide) f23 (fun _ h9 => h9) rfl dX0_add_40 ?_
  refine lv_iconst (v := nI 1) hx hb dX0_add_43 (by decide) ?_
  refine rn_iadd hx hb dX0_add_44 ?_
  refine lv_iload hx hb dX0_add_45 (lv_at hl 0 rfl) ?_
  refine lv_iload_n hx hb dX0_add_47 rfl (lv_at hl 4 rfl) ?_
  refine rn_iadd hx hb dX0_add_48 ?_
  refine rn_ast hx hb hK hP hD hS 3 0 rfl hty (by omega) (by decide) dX0_add_49 (fun H locs hP hD hS => ?_)
  have hP : va_P D vwCl ((h0, .inr (0, [.ref hd, .int (nI n), .ref hc, .ref hs, .int (nI (rc + 1))])) :: (hd, .inl (cI, 2000, .inl dr)) :: (hc, .inl (cI, 20000, .inl (va_cpy f ch b0 (S (rc + 1)) n2))) :: (hs, .inl (cI, 3002, .inl (upd st (rc + 1 + 1) (nI (S (rc + 1) + n2))))) :: wr) H := hP
  have hD : va_D A ((h0, .inr (0, [.ref hd, .int (nI n), .ref hc, .ref hs, .int (nI (rc + 1))])) :: (hd, .inl (cI, 2000, .inl dr)) :: (hc, .inl (cI, 20000, .inl (va_cpy f ch b0 (S (rc + 1)) n2))) :: (hs, .inl (cI, 3002, .inl (upd st (rc + 1 + 1) (nI (S (rc + 1) + n2))))) :: wr) := hD
  refine lv_aload_n hx hb dX0_add_50 rfl (lv_at hl 1 rfl) ?_
  refine va_get (D := D) (ci := 0) (v := .int (nI (rc + 1))) (C := RX0) (T := TX0) (N := 5) hx hb hts hin0 hown hK hP 0 rfl rfl 4 (by decide) f23 (fun _ h9 => h9) rfl dX0_add_51 ?_
  exact mu_iret hx hb hr hlocks hP hK hD hS (⟨rfl, rfl⟩) dX0_add_54
set_option maxHeartbeats 4000000 in
set_option maxRecDepth 100000 in
/-- numberOf -/
theorem kx_numberOf (l : Launch) (D : va_G) {tys : List (ClassId × FieldType)} {cI : ClassId} (hty : tys[0]? = some (cI, .int)) (h0 hd hc hs : Nat) (wr : va_W) (dr ch st : Nat → Int32) (n rc : Nat) (A : Nat → Prop) (S : Nat → Nat) (hR : cn_S st rc S) (qs a N2 : Nat) (f : Nat → Int32) (hq : (cn_W cI h0 hd hc hs wr dr ch st n rc)[qs]? = some (a, .inl (cI, N2, .inl f))) (hN : N2 ≤ 20000) (b0 n2 : Nat) (hb0 : b0 + n2 ≤ N2) : Met l yX0_numberOf wsX0_numberOf ({ frames := 3, cells := 0, slots := 0, locals := 90 }) (mu_Pc D vwCl (cn_W cI h0 hd hc hs wr dr ch st n rc) tys A [.ref h0, .ref a, .int (nI b0), .int (nI n2)]) (va_Qi (fun r w => ∃ ch' st' rc' S', w = cn_W cI h0 hd hc hs wr dr ch' st' n rc' ∧ cn_S st' rc' S' ∧ sp_numberOf (cn_rows ch S 1 rc) (sp_sl f b0 n2) = (cn_rows ch' S' 1 rc', r)) (mu_B D vwCl tys A) A) 0 0 A := by
  refine mu_of (cc := cX0_numberOf) (maxL := 5) (ret := some .int) (own := RX0) (by decide) rfl rfl (Nat.le_of_ble_eq_true rfl) ?_
  intro p e s m below meth c hx hb hr hts hown hlocks hml hP hK hD hS ls hl
  have hl : lv_has ls 5 [(0, .ref h0), (1, .ref a), (2, .int (nI b0)), (3, .int (nI n2))] := hl
  have hP : va_P D vwCl (cn_W cI h0 hd hc hs wr dr ch st n rc) s.heap := hP
  refine lv_aload_n hx hb dX0_numberOf_0 rfl (lv_at hl 0 rfl) ?_
  refine lv_aload_n hx hb dX0_numberOf_1 rfl (lv_at hl 1 rfl) ?_
  refine lv_iload_n hx hb dX0_numberOf_2 rfl (lv_at hl 2 rfl) ?_
  refine lv_iload_n hx hb dX0_numberOf_3 rfl (lv_at hl 3 rfl) ?_
  refine vp_callSi (W.runV (As := [.ref a, .int (nI b0), .int (nI n2)]) (rest := []) ⟨hx, hb, hml, hown, hts⟩ (kx_find l D hty h0 hd hc hs wr dr ch st n rc S hR qs a N2 f hq hN b0 n2 hb0) (cwV 3 hts gX0_numberOf_X0_find rfl rfl rfl (by decide +kernel) ⟨Nat.le_of_ble_eq_true rfl, Nat.le_of_ble_eq_true rfl⟩) (pu_preV hK hP 0 rfl rfl) rfl rfl hl.1 rfl (lv_room (Nat.le_of_ble_eq_true rfl)) dX0_numberOf_4 ⟨Nat.zero_le _, Nat.zero_le _⟩) (fun r4 er4 => ?_)
  refine lv_istore (lv' := [(4, .int r4), (0, .ref h0), (1, .ref a), (2, .int (nI b0)), (3, .int (nI n2))]) hx hb dX0_numberOf_7 hl (by decide) rfl (fun ls hl => ?_)
  refine lv_iload hx hb dX0_numberOf_9 (lv_at hl 0 rfl) ?_
  refine lv_iconst (v := (-1)) hx hb dX0_numberOf_11 (by decide) ?_
  refine lv_icmp_eq (tgt := 18) hx hb dX0_numberOf_12 (by decide) (fun c_12 => ?_) (fun c_12 => ?_)
  · refine lv_aload_n hx hb dX0_numberOf_18 rfl (lv_at hl 1 rfl) ?_
    refine lv_iload_n hx hb dX0_numberOf_19 rfl (lv_at hl 4 rfl) ?_
    refine vp_callSi (W.runV (As := [.int (nI n2)]) (rest := []) ⟨hx, hb, hml, hown, hts⟩ (kx_hasRoomFor l D hty h0 hd hc hs wr dr ch st n rc S hR n2 (by omega)) (cwV 1 hts gX0_numberOf_X0_hasRoomFor rfl rfl rfl (by decide +kernel) ⟨Nat.le_of_ble_eq_true rfl, Nat.le_of_ble_eq_true rfl⟩) (pu_preV hK hP 0 rfl rfl) rfl rfl hl.1 rfl (lv_room (Nat.le_of_ble_eq_true rfl)) dX0_numberOf_20 ⟨Nat.zero_le _, Nat.zero_le _⟩) (fun r20 er20 => ?_)
    rcases er20 with ⟨er20, hr_1⟩ | ⟨er20, hr_1⟩
    · subst er20
      refine lv_if_eq (tgt := 36) hx hb dX0_numberOf_23 (by decide) (fun c_23 => absurd c_23 (by decide)) (fun c_23 => ?_)
      refine lv_aload_n hx hb dX0_numberOf_26 rfl (lv_at hl 1 rfl) ?_
      refine lv_aload_n hx hb dX0_numberOf_27 rfl (lv_at hl 2 rfl) ?_
      refine lv_iload_n hx hb dX0_numberOf_28 rfl (lv_at hl 3 rfl) ?_
      refine lv_iload_n hx hb dX0_numberOf_29 rfl (lv_at hl 4 rfl) ?_
      refine mu_calli (va_runV (As := [.ref a, .int (nI b0), .int (nI n2)]) (rest := []) ⟨hx, hb, hml, hown, hts⟩ (kx_add l D hty h0 hd hc hs wr dr ch st n rc A S hR qs a N2 f hq hN b0 n2 hb0 hr_1.1 hr_1.2) (cwV 3 hts gX0_numberOf_X0_add rfl rfl rfl (by decide +kernel) ⟨Nat.le_of_ble_eq_true rfl, Nat.le_of_ble_eq_true rfl⟩) (mu_preV hK hP hD 0 rfl rfl) rfl rfl hl.1 rfl (lv_room (Nat.le_of_ble_eq_true rfl)) dX0_numberOf_30 ⟨Nat.zero_le _, Nat.zero_le _⟩) hS (fun r30 w_30 H locs er30 hP hD hS => ?_)
      obtain ⟨rfl, rfl⟩ := er30
      refine lv_goto (tgt := 37) hx hb dX0_numberOf_33 (by decide) ?_
      exact mu_iret hx hb hr hlocks hP hK hD hS (⟨_, _, _, _, rfl, cn_S_add hR hr_1.1 hr_1.2, cn_nb_new hR (by rw [← er4]; exact c_12) hr_1.1 hr_1.2⟩) dX0_numberOf_37
    · subst er20
      refine lv_if_eq (tgt := 36) hx hb dX0_numberOf_23 (by decide) (fun c_23 => ?_) (fun c_23 => absurd c_23 (not_not_intro (by decide)))
      refine lv_iconst (v := (-1)) hx hb dX0_numberOf_36 (by decide) ?_
      exact mu_iret hx hb hr hlocks hP hK hD hS (⟨ch, st, rc, S, rfl, hR, cn_nb_full hR (by rw [← er4]; exact c_12) hr_1⟩) dX0_numberOf_37
  · refine lv_iload hx hb dX0_numberOf_15 (lv_at hl 0 rfl) ?_
    exact mu_iret hx hb hr hlocks hP hK hD hS (⟨ch, st, rc, S, rfl, hR, cn_nb_old er4 c_12⟩) dX0_numberOf_17
