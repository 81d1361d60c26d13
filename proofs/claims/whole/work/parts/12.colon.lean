/-- the table of the name starts lies at t -/
def cn_NS (t : Nat) (U : State) : Prop := va_T .int t 32 (fun j => .int (sp_tb.getD j 0)) (fun _ => False) U U.heap ∧ va_Z RX0 "NAME_STARTS" "[I" (.ref t) (fun _ => False) U U.heap
theorem cn_NS_E (t : Nat) : pz_E (cn_NS t) := fun u U hvm hh h => ⟨by rw [hh]; exact va_T.moved hvm h.1, by rw [hh]; exact va_Z.moved hvm h.2⟩
set_option maxHeartbeats 4000000 in
set_option maxRecDepth 100000 in
/-- isNameStart -/
theorem kx_isNameStart (l : Launch) (D : va_G) {tys : List (ClassId × FieldType)} (ws : va_W) (t : Nat) (q : Int32) : Met l yX0_isNameStart wsX0_isNameStart ({ frames := 0, cells := 0, slots := 0, locals := 0 }) (pz_Pc D vwCl (ws) tys (cn_NS t) [.int q]) (vp_Si (fun r => (r = nI 1 ∧ sp_ns q = true) ∨ (r = nI 0 ∧ sp_ns q = false))) 0 0 (fun _ => False) := by
  refine pz_of (cc := cX0_isNameStart) (maxL := 2) (ret := some .boolean) (own := RX0) (by decide) rfl rfl (Nat.le_of_ble_eq_true rfl) ?_
  intro p e s m below meth c hx hb hr hts hown hlocks hml hP hK hN ls hl
  have hl : lv_has ls 2 [(0, .int q)] := hl
  have loop : ∀ (j : Nat) (v : Nat) (ls : Array Slot), 17 ≤ v + j → v ≤ 16 → sp_ns q = sp_in q v (16 - v) → lv_has ls 2 [(0, .int q), (1, .int (nI (2 * v)))] → W p l e { frames := 0, cells := 0, slots := 0, locals := 0 } s m [.int q].toArray below meth c s.heap [] 0 0 (MQ below (vp_Si (fun r => (r = nI 1 ∧ sp_ns q = true) ∨ (r = nI 0 ∧ sp_ns q = false))) [.int q].toArray s 0 0 (fun _ => False)) (F0 m 2 ls []) := by
    intro j
    induction j with
    | zero => intro v ls hj hv hinv hl; exfalso; omega
    | succ j ih =>
      intro v ls hj hv hinv hl
      refine lv_iload_n hx hb dX0_isNameStart_2 rfl (lv_at hl 1 rfl) ?_
      refine lv_iconst (v := nI 1) hx hb dX0_isNameStart_3 (by decide) ?_
      refine rn_iadd hx hb dX0_isNameStart_4 ?_
      refine va_gets hx hb hN.2 va_S.rf hown (hts (.fieldLink RX0 73 "NameNumbers" "NAME_STARTS" "[I") (by decide +kernel)) (fun _ h9 => h9) dX0_isNameStart_5 ?_
      refine va_tlen (v := nI 32) hx hb hN.1 va_S.rf rfl dX0_isNameStart_8 ?_
      refine rn_icmp_ge (tgt := 40) hx hb (by omega) (by omega) dX0_isNameStart_9 (by decide) (fun c_9 => ?_) (fun c_9 => ?_)
      · refine lv_iconst (v := nI 0) hx hb dX0_isNameStart_40 (by decide) ?_
        exact pu_zret hx hb hr hlocks (by decide) (Or.inr ⟨rfl, by rw [hinv, show 16 - v = 0 by omega]; rfl⟩) dX0_isNameStart_41
      · refine lv_iload_n hx hb dX0_isNameStart_12 rfl (lv_at hl 0 rfl) ?_
        refine va_gets hx hb hN.2 va_S.rf hown (hts (.fieldLink RX0 73 "NameNumbers" "NAME_STARTS" "[I") (by decide +kernel)) (fun _ h9 => h9) dX0_isNameStart_13 ?_
        refine lv_iload_n hx hb dX0_isNameStart_16 rfl (lv_at hl 1 rfl) ?_
        refine va_ti (v := .int (sp_tb.getD (2 * v) 0)) hx hb hN.1 va_S.rf (vp_in_nI (by omega) (by decide)) (by rw [nI_clamp (by omega)]) dX0_isNameStart_17 ?_
        refine lv_icmp_lt (tgt := 34) hx hb dX0_isNameStart_18 (by decide) (fun c_18 => ?_) (fun c_18 => ?_)
        · refine rn_iinc (n := 2) (lv' := [(1, .int (nI (2 * v + 2))), (0, .int q)]) hx hb dX0_isNameStart_34 hl (k := 1) rfl (by decide) rfl (fun ls hl => ?_)
          refine lv_goto (tgt := 2) hx hb dX0_isNameStart_37 (by decide) ?_
          exact ih (v + 1) ls (by omega) (by omega) (by first | exact cn_ns_lo (by omega) hinv c_18 | exact cn_ns_hi (by omega) hinv c_29) (lv_sub hl [1, 0] rfl)
        · refine lv_iload_n hx hb dX0_isNameStart_21 rfl (lv_at hl 0 rfl) ?_
          refine va_gets hx hb hN.2 va_S.rf hown (hts (.fieldLink RX0 73 "NameNumbers" "NAME_STARTS" "[I") (by decide +kernel)) (fun _ h9 => h9) dX0_isNameStart_22 ?_
          refine lv_iload_n hx hb dX0_isNameStart_25 rfl (lv_at hl 1 rfl) ?_
          refine lv_iconst (v := nI 1) hx hb dX0_isNameStart_26 (by decide) ?_
          refine rn_iadd hx hb dX0_isNameStart_27 ?_
          refine va_ti (v := .int (sp_tb.getD (2 * v + 1) 0)) hx hb hN.1 va_S.rf (vp_in_nI (by omega) (by decide)) (by rw [nI_clamp (by omega)]) dX0_isNameStart_28 ?_
          refine lv_icmp_gt (tgt := 34) hx hb dX0_isNameStart_29 (by decide) (fun c_29 => ?_) (fun c_29 => ?_)
          · refine rn_iinc (n := 2) (lv' := [(1, .int (nI (2 * v + 2))), (0, .int q)]) hx hb dX0_isNameStart_34 hl (k := 1) rfl (by decide) rfl (fun ls hl => ?_)
            refine lv_goto (tgt := 2) hx hb dX0_isNameStart_37 (by decide) ?_
            exact ih (v + 1) ls (by omega) (by omega) (by first | exact cn_ns_lo (by omega) hinv c_18 | exact cn_ns_hi (by omega) hinv c_29) (lv_sub hl [1, 0] rfl)
          · refine lv_iconst (v := nI 1) hx hb dX0_isNameStart_32 (by decide) ?_
            exact pu_zret hx hb hr hlocks (by decide) (Or.inl ⟨rfl, cn_ns_yes (by omega) hinv c_18 c_29⟩) dX0_isNameStart_33
  refine lv_iconst (v := nI 0) hx hb dX0_isNameStart_0 (by decide) ?_
  refine lv_istore_n (lv' := [(1, .int (nI 0)), (0, .int q)]) hx hb dX0_isNameStart_1 rfl hl (by decide) rfl (fun ls hl => ?_)
  exact loop 17 0 ls (by omega) (Nat.zero_le _) rfl (lv_sub hl [1, 0] rfl)
set_option maxHeartbeats 4000000 in
set_option maxRecDepth 100000 in
/-- colon -/
theorem kx_colon (l : Launch) (D : va_G) {tys : List (ClassId × FieldType)} {cI : ClassId} (hty : tys[0]? = some (cI, .int)) (h0 hd hc hs : Nat) (wr : va_W) (dr ch st : Nat → Int32) (n rc : Nat) (S : Nat → Nat) (hR : cn_S st rc S) (t : Nat) (k : Int32) : Met l yX0_colon wsX0_colon ({ frames := 1, cells := 0, slots := 0, locals := 30 }) (pz_Pc D vwCl (cn_W cI h0 hd hc hs wr dr ch st n rc) tys (cn_NS t) [.ref h0, .int k]) (vp_Si (fun r => r = sp_colon (cn_rows ch S 1 rc) k)) 0 0 (fun _ => False) := by
  refine pz_of (cc := cX0_colon) (maxL := 7) (ret := some .int) (own := RX0) (by decide) rfl rfl (Nat.le_of_ble_eq_true rfl) ?_
  intro p e s m below meth c hx hb hr hts hown hlocks hml hP hK hN ls hl
  have hl : lv_has ls 7 [(0, .ref h0), (1, .int k)] := hl
  have hin0 : ∀ w ∈ u_ws RX0 TX0 5, w ∈ wsX0_colon := by decide +kernel
  have f17 := hts (.fieldLink RX0 17 "NameNumbers" "characters" "[I") (by decide +kernel)
  have f20 := hts (.fieldLink RX0 20 "NameNumbers" "starts" "[I") (by decide +kernel)
  refine lv_aload_n hx hb dX0_colon_0 rfl (lv_at hl 0 rfl) ?_
  refine lv_iload_n hx hb dX0_colon_1 rfl (lv_at hl 1 rfl) ?_
  refine vp_callSi (W.runV (As := [.int k]) (rest := []) ⟨hx, hb, hml, hown, hts⟩ (kx_isRow l D hty h0 hd hc hs wr dr ch st n rc hR.2.2.2.2 k) (cwV 1 hts gX0_colon_X0_isRow rfl rfl rfl (by decide +kernel) ⟨Nat.le_of_ble_eq_true rfl, Nat.le_of_ble_eq_true rfl⟩) (pu_preV hK hP 0 rfl rfl) rfl rfl hl.1 rfl (lv_room (Nat.le_of_ble_eq_true rfl)) dX0_colon_2 ⟨Nat.zero_le _, Nat.zero_le _⟩) (fun r2 er2 => ?_)
  rcases er2 with ⟨er2, hk_k⟩ | ⟨er2, hk_k⟩
  · subst er2
    obtain ⟨k', h1_k, h2_k, rfl⟩ := hk_k
    have hw_k := cn_row_yes (ch := ch) hR h1_k h2_k
    refine lv_if_ne (tgt := 11) hx hb dX0_colon_5 (by decide) (fun c_5 => ?_) (fun c_5 => absurd c_5 (by decide))
    have htk := cn_top hR (k := k' + 1) (by omega) (by omega)
    have hlk := hR.2.2.1 k' h1_k h2_k
    refine lv_aload_n hx hb dX0_colon_11 rfl (lv_at hl 0 rfl) ?_
    refine va_get (D := D) (ci := 0) (v := .ref hs) (C := RX0) (T := TX0) (N := 5) hx hb hts hin0 hown hK hP 0 rfl rfl 3 (by decide) f20 (fun _ h9 => h9) rfl dX0_colon_12 ?_
    refine lv_iload_n hx hb dX0_colon_15 rfl (lv_at hl 1 rfl) ?_
    refine rn_ald (v := nI (S k')) hx hb hK hP 3 0 rfl hty (by have := hR.2.2.2.2; omega) (by decide) (hR.2.1 _ (by omega) (by omega)) dX0_colon_16 ?_
    refine lv_istore_n (lv' := [(2, .int (nI (S k'))), (0, .ref h0), (1, .int (nI k'))]) hx hb dX0_colon_17 rfl hl (by decide) rfl (fun ls hl => ?_)
    refine lv_aload_n hx hb dX0_colon_18 rfl (lv_at hl 1 rfl) ?_
    refine va_get (D := D) (ci := 0) (v := .ref hs) (C := RX0) (T := TX0) (N := 5) hx hb hts hin0 hown hK hP 0 rfl rfl 3 (by decide) f20 (fun _ h9 => h9) rfl dX0_colon_19 ?_
    refine lv_iload_n hx hb dX0_colon_22 rfl (lv_at hl 2 rfl) ?_
    refine lv_iconst (v := nI 1) hx hb dX0_colon_23 (by decide) ?_
    refine rn_iadd hx hb dX0_colon_24 ?_
    refine rn_ald (v := nI (S (k' + 1))) hx hb hK hP 3 0 rfl hty (by have := hR.2.2.2.2; omega) (by decide) (hR.2.1 _ (by omega) (by omega)) dX0_colon_25 ?_
    refine lv_istore_n (lv' := [(3, .int (nI (S (k' + 1)))), (2, .int (nI (S k'))), (0, .ref h0), (1, .int (nI k'))]) hx hb dX0_colon_26 rfl hl (by decide) rfl (fun ls hl => ?_)
    refine lv_aload_n hx hb dX0_colon_27 rfl (lv_at hl 2 rfl) ?_
    refine lv_iload_n hx hb dX0_colon_28 rfl (lv_at hl 1 rfl) ?_
    refine lv_iload_n hx hb dX0_colon_29 rfl (lv_at hl 0 rfl) ?_
    refine vp_callSi (W.runV (As := [.int (nI (S k')), .int (nI (S (k' + 1)))]) (rest := []) ⟨hx, hb, hml, hown, hts⟩ (kx_findColon l D hty h0 hd hc hs wr dr ch st n rc (S k') (S (k' + 1)) (by omega) htk) (cwV 2 hts gX0_colon_X0_findColon rfl rfl rfl (by decide +kernel) ⟨Nat.le_of_ble_eq_true rfl, Nat.le_of_ble_eq_true rfl⟩) (pu_preV hK hP 0 rfl rfl) rfl rfl hl.1 rfl (lv_room (Nat.le_of_ble_eq_true rfl)) dX0_colon_30 ⟨Nat.zero_le _, Nat.zero_le _⟩) (fun r30 er30 => ?_)
    obtain ⟨P, eP⟩ : ∃ z, z = sp_ix (sp_sl ch (S k') (S (k' + 1) - (S k'))) := ⟨_, rfl⟩
    rw [← eP] at er30
    subst er30
    have lP := sp_ix_le (sp_sl ch (S k') (S (k' + 1) - (S k')))
    rw [sp_len, ← eP] at lP
    refine lv_istore (lv' := [(4, .int (nI (S k' + P))), (3, .int (nI (S (k' + 1)))), (2, .int (nI (S k'))), (0, .ref h0), (1, .int (nI k'))]) hx hb dX0_colon_33 hl (by decide) rfl (fun ls hl => ?_)
    refine lv_iload hx hb dX0_colon_35 (lv_at hl 0 rfl) ?_
    refine lv_iload_n hx hb dX0_colon_37 rfl (lv_at hl 1 rfl) ?_
    refine rn_icmp_ne (tgt := 43) hx hb (by omega) (by omega) dX0_colon_38 (by decide) (fun c_38 => ?_) (fun c_38 => ?_)
    · refine lv_aload_n hx hb dX0_colon_43 rfl (lv_at hl 3 rfl) ?_
      refine lv_iload hx hb dX0_colon_44 (lv_at hl 0 rfl) ?_
      refine lv_iconst (v := nI 1) hx hb dX0_colon_46 (by decide) ?_
      refine rn_iadd hx hb dX0_colon_47 ?_
      refine lv_iload_n hx hb dX0_colon_48 rfl (lv_at hl 1 rfl) ?_
      refine vp_callSi (W.runV (As := [.int (nI (S k' + P + 1)), .int (nI (S (k' + 1)))]) (rest := []) ⟨hx, hb, hml, hown, hts⟩ (kx_findColon l D hty h0 hd hc hs wr dr ch st n rc (S k' + P + 1) (S (k' + 1)) (by omega) htk) (cwV 2 hts gX0_colon_X0_findColon rfl rfl rfl (by decide +kernel) ⟨Nat.le_of_ble_eq_true rfl, Nat.le_of_ble_eq_true rfl⟩) (pu_preV hK hP 0 rfl rfl) rfl rfl hl.1 rfl (lv_room (Nat.le_of_ble_eq_true rfl)) dX0_colon_49 ⟨Nat.zero_le _, Nat.zero_le _⟩) (fun r49 er49 => ?_)
      obtain ⟨P2, eP2⟩ : ∃ z, z = sp_ix (sp_sl ch (S k' + P + 1) (S (k' + 1) - (S k' + P + 1))) := ⟨_, rfl⟩
      rw [← eP2] at er49
      subst er49
      have lP2 := sp_ix_le (sp_sl ch (S k' + P + 1) (S (k' + 1) - (S k' + P + 1)))
      rw [sp_len, ← eP2] at lP2
      refine lv_iload_n hx hb dX0_colon_52 rfl (lv_at hl 1 rfl) ?_
      refine rn_icmp_ne (tgt := 60) hx hb (by omega) (by omega) dX0_colon_53 (by decide) (fun c_53 => ?_) (fun c_53 => ?_)
      · refine lv_iconst (v := nI 0) hx hb dX0_colon_60 (by decide) ?_
        refine lv_istore (lv' := [(5, .int (nI 0)), (4, .int (nI (S k' + P))), (3, .int (nI (S (k' + 1)))), (2, .int (nI (S k'))), (0, .ref h0), (1, .int (nI k'))]) hx hb dX0_colon_61 hl (by decide) rfl (fun ls hl => ?_)
        refine lv_iload hx hb dX0_colon_63 (lv_at hl 1 rfl) ?_
        refine lv_iload_n hx hb dX0_colon_65 rfl (lv_at hl 3 rfl) ?_
        refine rn_icmp_le (tgt := 96) hx hb (by omega) (by omega) dX0_colon_66 (by decide) (fun c_66 => ?_) (fun c_66 => ?_)
        · refine lv_iconst (v := nI 0) hx hb dX0_colon_96 (by decide) ?_
          refine lv_istore (lv' := [(6, .int (nI 0)), (5, .int (nI 0)), (4, .int (nI (S k' + P))), (3, .int (nI (S (k' + 1)))), (2, .int (nI (S k'))), (0, .ref h0), (1, .int (nI k'))]) hx hb dX0_colon_97 hl (by decide) rfl (fun ls hl => ?_)
          refine lv_iload hx hb dX0_colon_99 (lv_at hl 1 rfl) ?_
          refine lv_if_eq (tgt := 116) hx hb dX0_colon_101 (by decide) (fun c_101 => ?_) (fun c_101 => absurd c_101 (not_not_intro (by decide)))
          refine lv_iconst (v := (-1)) hx hb dX0_colon_116 (by decide) ?_
          exact pu_iret hx hb hr hlocks (by rw [sp_colon, hw_k]; first | exact cn_co_no1 eP eP2 (by omega) (by omega) | exact cn_co_no2 eP (by omega) (by omega) | exact cn_co_no3 eP (by omega) hns) dX0_colon_117
        · refine lv_iload hx hb dX0_colon_69 (lv_at hl 1 rfl) ?_
          refine lv_iconst (v := nI 1) hx hb dX0_colon_71 (by decide) ?_
          refine rn_iadd hx hb dX0_colon_72 ?_
          refine lv_iload_n hx hb dX0_colon_73 rfl (lv_at hl 2 rfl) ?_
          refine rn_icmp_ge (tgt := 96) hx hb (by omega) (by omega) dX0_colon_74 (by decide) (fun c_74 => ?_) (fun c_74 => ?_)
          · refine lv_iconst (v := nI 0) hx hb dX0_colon_96 (by decide) ?_
            refine lv_istore (lv' := [(6, .int (nI 0)), (5, .int (nI 0)), (4, .int (nI (S k' + P))), (3, .int (nI (S (k' + 1)))), (2, .int (nI (S k'))), (0, .ref h0), (1, .int (nI k'))]) hx hb dX0_colon_97 hl (by decide) rfl (fun ls hl => ?_)
            refine lv_iload hx hb dX0_colon_99 (lv_at hl 1 rfl) ?_
            refine lv_if_eq (tgt := 116) hx hb dX0_colon_101 (by decide) (fun c_101 => ?_) (fun c_101 => absurd c_101 (not_not_intro (by decide)))
            refine lv_iconst (v := (-1)) hx hb dX0_colon_116 (by decide) ?_
            exact pu_iret hx hb hr hlocks (by rw [sp_colon, hw_k]; first | exact cn_co_no1 eP eP2 (by omega) (by omega) | exact cn_co_no2 eP (by omega) (by omega) | exact cn_co_no3 eP (by omega) hns) dX0_colon_117
          · refine lv_aload_n hx hb dX0_colon_77 rfl (lv_at hl 4 rfl) ?_
            refine va_get (D := D) (ci := 0) (v := .ref hc) (C := RX0) (T := TX0) (N := 5) hx hb hts hin0 hown hK hP 0 rfl rfl 2 (by decide) f17 (fun _ h9 => h9) rfl dX0_colon_78 ?_
            refine lv_iload hx hb dX0_colon_81 (lv_at hl 1 rfl) ?_
            refine lv_iconst (v := nI 1) hx hb dX0_colon_83 (by decide) ?_
            refine rn_iadd hx hb dX0_colon_84 ?_
            refine rn_ald (v := (ch (S k' + P + 1))) hx hb hK hP 2 0 rfl hty (by omega) (by decide) (rfl) dX0_colon_85 ?_
            refine vp_callSi (W.runS (As := [.int (ch (S k' + P + 1))]) (rest := []) ⟨hx, hb, hml, hown, hts⟩ (kx_isNameStart l D (cn_W cI h0 hd hc hs wr dr ch st n rc) t (ch (S k' + P + 1))) (va_cwS 1 hts gX0_colon_X0_isNameStart rfl rfl rfl (by decide +kernel) ⟨Nat.le_of_ble_eq_true rfl, Nat.le_of_ble_eq_true rfl⟩) (pz_preS (cn_NS_E t) hK hP (fun U hU hv => cn_NS_E t s U hv hU hN)) rfl rfl hl.1 rfl (lv_room (Nat.le_of_ble_eq_true rfl)) dX0_colon_86 ⟨Nat.zero_le _, Nat.zero_le _⟩) (fun r86 er86 => ?_)
            rcases er86 with ⟨er86, hns⟩ | ⟨er86, hns⟩
            · subst er86
              refine lv_if_eq (tgt := 96) hx hb dX0_colon_89 (by decide) (fun c_89 => absurd c_89 (by decide)) (fun c_89 => ?_)
              refine lv_iconst (v := nI 1) hx hb dX0_colon_92 (by decide) ?_
              refine lv_goto (tgt := 97) hx hb dX0_colon_93 (by decide) ?_
              refine lv_istore (lv' := [(6, .int (nI 1)), (5, .int (nI 0)), (4, .int (nI (S k' + P))), (3, .int (nI (S (k' + 1)))), (2, .int (nI (S k'))), (0, .ref h0), (1, .int (nI k'))]) hx hb dX0_colon_97 hl (by decide) rfl (fun ls hl => ?_)
              refine lv_iload hx hb dX0_colon_99 (lv_at hl 1 rfl) ?_
              refine lv_if_eq (tgt := 116) hx hb dX0_colon_101 (by decide) (fun c_101 => ?_) (fun c_101 => absurd c_101 (not_not_intro (by decide)))
              refine lv_iconst (v := (-1)) hx hb dX0_colon_116 (by decide) ?_
              exact pu_iret hx hb hr hlocks (by rw [sp_colon, hw_k]; first | exact cn_co_no1 eP eP2 (by omega) (by omega) | exact cn_co_no2 eP (by omega) (by omega) | exact cn_co_no3 eP (by omega) hns) dX0_colon_117
            · subst er86
              refine lv_if_eq (tgt := 96) hx hb dX0_colon_89 (by decide) (fun c_89 => ?_) (fun c_89 => absurd c_89 (not_not_intro (by decide)))
              refine lv_iconst (v := nI 0) hx hb dX0_colon_96 (by decide) ?_
              refine lv_istore (lv' := [(6, .int (nI 0)), (5, .int (nI 0)), (4, .int (nI (S k' + P))), (3, .int (nI (S (k' + 1)))), (2, .int (nI (S k'))), (0, .ref h0), (1, .int (nI k'))]) hx hb dX0_colon_97 hl (by decide) rfl (fun ls hl => ?_)
              refine lv_iload hx hb dX0_colon_99 (lv_at hl 1 rfl) ?_
              refine lv_if_eq (tgt := 116) hx hb dX0_colon_101 (by decide) (fun c_101 => ?_) (fun c_101 => absurd c_101 (not_not_intro (by decide)))
              refine lv_iconst (v := (-1)) hx hb dX0_colon_116 (by decide) ?_
              exact pu_iret hx hb hr hlocks (by rw [sp_colon, hw_k]; first | exact cn_co_no1 eP eP2 (by omega) (by omega) | exact cn_co_no2 eP (by omega) (by omega) | exact cn_co_no3 eP (by omega) hns) dX0_colon_117
      · refine lv_iconst (v := nI 1) hx hb dX0_colon_56 (by decide) ?_
        refine lv_goto (tgt := 61) hx hb dX0_colon_57 (by decide) ?_
        refine lv_istore (lv' := [(5, .int (nI 1)), (4, .int (nI (S k' + P))), (3, .int (nI (S (k' + 1)))), (2, .int (nI (S k'))), (0, .ref h0), (1, .int (nI k'))]) hx hb dX0_colon_61 hl (by decide) rfl (fun ls hl => ?_)
        refine lv_iload hx hb dX0_colon_63 (lv_at hl 1 rfl) ?_
        refine lv_iload_n hx hb dX0_colon_65 rfl (lv_at hl 3 rfl) ?_
        refine rn_icmp_le (tgt := 96) hx hb (by omega) (by omega) dX0_colon_66 (by decide) (fun c_66 => ?_) (fun c_66 => ?_)
        · refine lv_iconst (v := nI 0) hx hb dX0_colon_96 (by decide) ?_
          refine lv_istore (lv' := [(6, .int (nI 0)), (5, .int (nI 1)), (4, .int (nI (S k' + P))), (3, .int (nI (S (k' + 1)))), (2, .int (nI (S k'))), (0, .ref h0), (1, .int (nI k'))]) hx hb dX0_colon_97 hl (by decide) rfl (fun ls hl => ?_)
          refine lv_iload hx hb dX0_colon_99 (lv_at hl 1 rfl) ?_
          refine lv_if_eq (tgt := 116) hx hb dX0_colon_101 (by decide) (fun c_101 => absurd c_101 (by decide)) (fun c_101 => ?_)
          refine lv_iload hx hb dX0_colon_104 (lv_at hl 0 rfl) ?_
          refine lv_if_eq (tgt := 116) hx hb dX0_colon_106 (by decide) (fun c_106 => ?_) (fun c_106 => absurd c_106 (not_not_intro (by decide)))
          refine lv_iconst (v := (-1)) hx hb dX0_colon_116 (by decide) ?_
          exact pu_iret hx hb hr hlocks (by rw [sp_colon, hw_k]; first | exact cn_co_no1 eP eP2 (by omega) (by omega) | exact cn_co_no2 eP (by omega) (by omega) | exact cn_co_no3 eP (by omega) hns) dX0_colon_117
        · refine lv_iload hx hb dX0_colon_69 (lv_at hl 1 rfl) ?_
          refine lv_iconst (v := nI 1) hx hb dX0_colon_71 (by decide) ?_
          refine rn_iadd hx hb dX0_colon_72 ?_
          refine lv_iload_n hx hb dX0_colon_73 rfl (lv_at hl 2 rfl) ?_
          refine rn_icmp_ge (tgt := 96) hx hb (by omega) (by omega) dX0_colon_74 (by decide) (fun c_74 => ?_) (fun c_74 => ?_)
          · refine lv_iconst (v := nI 0) hx hb dX0_colon_96 (by decide) ?_
            refine lv_istore (lv' := [(6, .int (nI 0)), (5, .int (nI 1)), (4, .int (nI (S k' + P))), (3, .int (nI (S (k' + 1)))), (2, .int (nI (S k'))), (0, .ref h0), (1, .int (nI k'))]) hx hb dX0_colon_97 hl (by decide) rfl (fun ls hl => ?_)
            refine lv_iload hx hb dX0_colon_99 (lv_at hl 1 rfl) ?_
            refine lv_if_eq (tgt := 116) hx hb dX0_colon_101 (by decide) (fun c_101 => absurd c_101 (by decide)) (fun c_101 => ?_)
            refine lv_iload hx hb dX0_colon_104 (lv_at hl 0 rfl) ?_
            refine lv_if_eq (tgt := 116) hx hb dX0_colon_106 (by decide) (fun c_106 => ?_) (fun c_106 => absurd c_106 (not_not_intro (by decide)))
            refine lv_iconst (v := (-1)) hx hb dX0_colon_116 (by decide) ?_
            exact pu_iret hx hb hr hlocks (by rw [sp_colon, hw_k]; first | exact cn_co_no1 eP eP2 (by omega) (by omega) | exact cn_co_no2 eP (by omega) (by omega) | exact cn_co_no3 eP (by omega) hns) dX0_colon_117
          · refine lv_aload_n hx hb dX0_colon_77 rfl (lv_at hl 4 rfl) ?_
            refine va_get (D := D) (ci := 0) (v := .ref hc) (C := RX0) (T := TX0) (N := 5) hx hb hts hin0 hown hK hP 0 rfl rfl 2 (by decide) f17 (fun _ h9 => h9) rfl dX0_colon_78 ?_
            refine lv_iload hx hb dX0_colon_81 (lv_at hl 1 rfl) ?_
            refine lv_iconst (v := nI 1) hx hb dX0_colon_83 (by decide) ?_
            refine rn_iadd hx hb dX0_colon_84 ?_
            refine rn_ald (v := (ch (S k' + P + 1))) hx hb hK hP 2 0 rfl hty (by omega) (by decide) (rfl) dX0_colon_85 ?_
            refine vp_callSi (W.runS (As := [.int (ch (S k' + P + 1))]) (rest := []) ⟨hx, hb, hml, hown, hts⟩ (kx_isNameStart l D (cn_W cI h0 hd hc hs wr dr ch st n rc) t (ch (S k' + P + 1))) (va_cwS 1 hts gX0_colon_X0_isNameStart rfl rfl rfl (by decide +kernel) ⟨Nat.le_of_ble_eq_true rfl, Nat.le_of_ble_eq_true rfl⟩) (pz_preS (cn_NS_E t) hK hP (fun U hU hv => cn_NS_E t s U hv hU hN)) rfl rfl hl.1 rfl (lv_room (Nat.le_of_ble_eq_true rfl)) dX0_colon_86 ⟨Nat.zero_le _, Nat.zero_le _⟩) (fun r86 er86 => ?_)
            rcases er86 with ⟨er86, hns⟩ | ⟨er86, hns⟩
            · subst er86
              refine lv_if_eq (tgt := 96) hx hb dX0_colon_89 (by decide) (fun c_89 => absurd c_89 (by decide)) (fun c_89 => ?_)
              refine lv_iconst (v := nI 1) hx hb dX0_colon_92 (by decide) ?_
              refine lv_goto (tgt := 97) hx hb dX0_colon_93 (by decide) ?_
              refine lv_istore (lv' := [(6, .int (nI 1)), (5, .int (nI 1)), (4, .int (nI (S k' + P))), (3, .int (nI (S (k' + 1)))), (2, .int (nI (S k'))), (0, .ref h0), (1, .int (nI k'))]) hx hb dX0_colon_97 hl (by decide) rfl (fun ls hl => ?_)
              refine lv_iload hx hb dX0_colon_99 (lv_at hl 1 rfl) ?_
              refine lv_if_eq (tgt := 116) hx hb dX0_colon_101 (by decide) (fun c_101 => absurd c_101 (by decide)) (fun c_101 => ?_)
              refine lv_iload hx hb dX0_colon_104 (lv_at hl 0 rfl) ?_
              refine lv_if_eq (tgt := 116) hx hb dX0_colon_106 (by decide) (fun c_106 => absurd c_106 (by decide)) (fun c_106 => ?_)
              refine lv_iload hx hb dX0_colon_109 (lv_at hl 2 rfl) ?_
              refine lv_iload_n hx hb dX0_colon_111 rfl (lv_at hl 4 rfl) ?_
              refine rn_isub hx hb (by omega) dX0_colon_112 ?_
              refine lv_goto (tgt := 117) hx hb dX0_colon_113 (by decide) ?_
              exact pu_iret hx hb hr hlocks (by rw [sp_colon, hw_k]; exact cn_co_yes eP eP2 (by omega) (by omega) (by omega) (by omega) hns) dX0_colon_117
            · subst er86
              refine lv_if_eq (tgt := 96) hx hb dX0_colon_89 (by decide) (fun c_89 => ?_) (fun c_89 => absurd c_89 (not_not_intro (by decide)))
              refine lv_iconst (v := nI 0) hx hb dX0_colon_96 (by decide) ?_
              refine lv_istore (lv' := [(6, .int (nI 0)), (5, .int (nI 1)), (4, .int (nI (S k' + P))), (3, .int (nI (S (k' + 1)))), (2, .int (nI (S k'))), (0, .ref h0), (1, .int (nI k'))]) hx hb dX0_colon_97 hl (by decide) rfl (fun ls hl => ?_)
              refine lv_iload hx hb dX0_colon_99 (lv_at hl 1 rfl) ?_
              refine lv_if_eq (tgt := 116) hx hb dX0_colon_101 (by decide) (fun c_101 => absurd c_101 (by decide)) (fun c_101 => ?_)
              refine lv_iload hx hb dX0_colon_104 (lv_at hl 0 rfl) ?_
              refine lv_if_eq (tgt := 116) hx hb dX0_colon_106 (by decide) (fun c_106 => ?_) (fun c_106 => absurd c_106 (not_not_intro (by decide)))
              refine lv_iconst (v := (-1)) hx hb dX0_colon_116 (by decide) ?_
              exact pu_iret hx hb hr hlocks (by rw [sp_colon, hw_k]; first | exact cn_co_no1 eP eP2 (by omega) (by omega) | exact cn_co_no2 eP (by omega) (by omega) | exact cn_co_no3 eP (by omega) hns) dX0_colon_117
    · refine lv_iconst (v := nI 0) hx hb dX0_colon_41 (by decide) ?_
      exact pu_iret hx hb hr hlocks (by rw [sp_colon, hw_k]; exact cn_co_0 eP (by omega)) dX0_colon_42
  · subst er2
    have hw_k := cn_row_no (ch := ch) hR hk_k
    refine lv_if_ne (tgt := 11) hx hb dX0_colon_5 (by decide) (fun c_5 => absurd c_5 (not_not_intro (by decide))) (fun c_5 => ?_)
    refine lv_bipush (v := (-2)) hx hb dX0_colon_8 (by decide) ?_
    exact pu_iret hx hb hr hlocks (by rw [sp_colon, hw_k]) dX0_colon_10
