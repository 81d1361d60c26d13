set_option maxHeartbeats 4000000 in
set_option maxRecDepth 100000 in
/-- isIn -/
theorem km_isIn (l : Launch) (D : va_G) {tys : List (ClassId × FieldType)} (ws : va_W) (q a b : Int32) : Met l yX1_isIn wsX1_isIn ({ frames := 0, cells := 0, slots := 0, locals := 0 }) (pu_Pc D vwCl (ws) tys [.int q, .int a, .int b]) (vp_Si (fun r => (r = nI 1 ∧ sp_bt q a b) ∨ (r = nI 0 ∧ ¬ sp_bt q a b))) 0 0 (fun _ => False) := by
  refine pu_of (cc := cX1_isIn) (maxL := 3) (ret := some .boolean) (own := RX1) (by decide) rfl rfl (Nat.le_of_ble_eq_true rfl) ?_
  intro p e s m below meth c hx hb hr hts hown hlocks hml hP hK ls hl
  have hl : lv_has ls 3 [(0, .int q), (1, .int a), (2, .int b)] := hl
  refine lv_iload_n hx hb dX1_isIn_0 rfl (lv_at hl 0 rfl) ?_
  refine lv_iload_n hx hb dX1_isIn_1 rfl (lv_at hl 1 rfl) ?_
  refine lv_icmp_lt (tgt := 14) hx hb dX1_isIn_2 (by decide) (fun c_2 => ?_) (fun c_2 => ?_)
  · refine lv_iconst (v := nI 0) hx hb dX1_isIn_14 (by decide) ?_
    exact pu_zret hx hb hr hlocks (by decide) (Or.inr ⟨rfl, by first | exact (fun z => absurd c_2 (Int32.not_lt.mpr z.1)) | exact (fun z => absurd c_7 (Int32.not_lt.mpr z.2))⟩) dX1_isIn_15
  · refine lv_iload_n hx hb dX1_isIn_5 rfl (lv_at hl 0 rfl) ?_
    refine lv_iload_n hx hb dX1_isIn_6 rfl (lv_at hl 2 rfl) ?_
    refine lv_icmp_gt (tgt := 14) hx hb dX1_isIn_7 (by decide) (fun c_7 => ?_) (fun c_7 => ?_)
    · refine lv_iconst (v := nI 0) hx hb dX1_isIn_14 (by decide) ?_
      exact pu_zret hx hb hr hlocks (by decide) (Or.inr ⟨rfl, by first | exact (fun z => absurd c_2 (Int32.not_lt.mpr z.1)) | exact (fun z => absurd c_7 (Int32.not_lt.mpr z.2))⟩) dX1_isIn_15
    · refine lv_iconst (v := nI 1) hx hb dX1_isIn_10 (by decide) ?_
      refine lv_goto (tgt := 15) hx hb dX1_isIn_11 (by decide) ?_
      exact pu_zret hx hb hr hlocks (by decide) (Or.inl ⟨rfl, Int32.not_lt.mp c_2, Int32.not_lt.mp c_7⟩) dX1_isIn_15
set_option maxHeartbeats 4000000 in
set_option maxRecDepth 100000 in
/-- isStart -/
theorem km_isStart (l : Launch) (D : va_G) {tys : List (ClassId × FieldType)} (ws : va_W) (q : Int32) : Met l yX1_isStart wsX1_isStart ({ frames := 1, cells := 0, slots := 0, locals := 24 }) (pu_Pc D vwCl (ws) tys [.int q]) (vp_Si (fun r => (r = nI 1 ∧ sp_ns q = true) ∨ (r = nI 0 ∧ sp_ns q = false))) 0 0 (fun _ => False) := by
  refine pu_of (cc := cX1_isStart) (maxL := 2) (ret := some .boolean) (own := RX1) (by decide) rfl rfl (Nat.le_of_ble_eq_true rfl) ?_
  intro p e s m below meth c hx hb hr hts hown hlocks hml hP hK ls hl
  have hl : lv_has ls 2 [(0, .int q)] := hl
  refine lv_iload_n hx hb dX1_isStart_0 rfl (lv_at hl 0 rfl) ?_
  refine lv_bipush (v := nI 65) hx hb dX1_isStart_1 (by decide) ?_
  refine lv_bipush (v := nI 90) hx hb dX1_isStart_3 (by decide) ?_
  refine vp_callSi (W.runS (As := [.int q, .int (nI 65), .int (nI 90)]) (rest := []) ⟨hx, hb, hml, hown, hts⟩ (km_isIn l D ws q (nI 65) (nI 90)) (va_cwS 3 hts gX1_isStart_X1_isIn rfl rfl rfl (by decide +kernel) ⟨Nat.le_of_ble_eq_true rfl, Nat.le_of_ble_eq_true rfl⟩) (pu_preS hK hP) rfl rfl hl.1 rfl (lv_room (Nat.le_of_ble_eq_true rfl)) dX1_isStart_5 ⟨Nat.zero_le _, Nat.zero_le _⟩) (fun r5 er5 => ?_)
  rcases er5 with ⟨er5, h_5⟩ | ⟨er5, h_5⟩
  · subst er5
    refine lv_if_ne (tgt := 99) hx hb dX1_isStart_8 (by decide) (fun c_8 => ?_) (fun c_8 => absurd c_8 (by decide))
    refine lv_iconst (v := nI 1) hx hb dX1_isStart_99 (by decide) ?_
    refine lv_goto (tgt := 104) hx hb dX1_isStart_100 (by decide) ?_
    refine lv_istore_n (lv' := [(1, .int (nI 1)), (0, .int q)]) hx hb dX1_isStart_104 rfl hl (by decide) rfl (fun ls hl => ?_)
    refine lv_iload_n hx hb dX1_isStart_105 rfl (lv_at hl 0 rfl) ?_
    refine lv_if_ne (tgt := 194) hx hb dX1_isStart_106 (by decide) (fun c_106 => ?_) (fun c_106 => absurd c_106 (by decide))
    refine lv_iconst (v := nI 1) hx hb dX1_isStart_194 (by decide) ?_
    refine lv_goto (tgt := 199) hx hb dX1_isStart_195 (by decide) ?_
    exact pu_zret hx hb hr hlocks (by decide) (Or.inl ⟨rfl, by first | exact sp_ns_of 1 (by decide) h_5 (by decide) (by decide) | exact sp_ns_of 3 (by decide) h_16 (by decide) (by decide) | exact sp_ns_of 4 (by decide) h_41 (by decide) (by decide) | exact sp_ns_of 5 (by decide) h_54 (by decide) (by decide) | exact sp_ns_of 6 (by decide) h_67 (by decide) (by decide) | exact sp_ns_of 7 (by decide) h_80 (by decide) (by decide) | exact sp_ns_of 8 (by decide) h_93 (by decide) (by decide) | exact sp_ns_of 10 (by decide) h_130 (by decide) (by decide) | exact sp_ns_of 11 (by decide) h_143 (by decide) (by decide) | exact sp_ns_of 12 (by decide) h_155 (by decide) (by decide) | exact sp_ns_of 13 (by decide) h_166 (by decide) (by decide) | exact sp_ns_of 14 (by decide) h_177 (by decide) (by decide) | exact sp_ns_of 15 (by decide) h_188 (by decide) (by decide) | exact sp_ns_of 0 (by decide) (sp_bt_eq c_25) (by decide) (by decide) | exact sp_ns_of 2 (by decide) (sp_bt_eq c_31) (by decide) (by decide) | exact sp_ns_of 9 (by decide) (sp_bt_eq c_113) (by decide) (by decide) | exact sp_ns_of 9 (by decide) (sp_bt_eq c_120) (by decide) (by decide)⟩) dX1_isStart_199
  · subst er5
    refine lv_if_ne (tgt := 99) hx hb dX1_isStart_8 (by decide) (fun c_8 => absurd c_8 (not_not_intro (by decide))) (fun c_8 => ?_)
    refine lv_iload_n hx hb dX1_isStart_11 rfl (lv_at hl 0 rfl) ?_
    refine lv_bipush (v := nI 97) hx hb dX1_isStart_12 (by decide) ?_
    refine lv_bipush (v := nI 122) hx hb dX1_isStart_14 (by decide) ?_
    refine vp_callSi (W.runS (As := [.int q, .int (nI 97), .int (nI 122)]) (rest := []) ⟨hx, hb, hml, hown, hts⟩ (km_isIn l D ws q (nI 97) (nI 122)) (va_cwS 3 hts gX1_isStart_X1_isIn rfl rfl rfl (by decide +kernel) ⟨Nat.le_of_ble_eq_true rfl, Nat.le_of_ble_eq_true rfl⟩) (pu_preS hK hP) rfl rfl hl.1 rfl (lv_room (Nat.le_of_ble_eq_true rfl)) dX1_isStart_16 ⟨Nat.zero_le _, Nat.zero_le _⟩) (fun r16 er16 => ?_)
    rcases er16 with ⟨er16, h_16⟩ | ⟨er16, h_16⟩
    · subst er16
      refine lv_if_ne (tgt := 99) hx hb dX1_isStart_19 (by decide) (fun c_19 => ?_) (fun c_19 => absurd c_19 (by decide))
      refine lv_iconst (v := nI 1) hx hb dX1_isStart_99 (by decide) ?_
      refine lv_goto (tgt := 104) hx hb dX1_isStart_100 (by decide) ?_
      refine lv_istore_n (lv' := [(1, .int (nI 1)), (0, .int q)]) hx hb dX1_isStart_104 rfl hl (by decide) rfl (fun ls hl => ?_)
      refine lv_iload_n hx hb dX1_isStart_105 rfl (lv_at hl 0 rfl) ?_
      refine lv_if_ne (tgt := 194) hx hb dX1_isStart_106 (by decide) (fun c_106 => ?_) (fun c_106 => absurd c_106 (by decide))
      refine lv_iconst (v := nI 1) hx hb dX1_isStart_194 (by decide) ?_
      refine lv_goto (tgt := 199) hx hb dX1_isStart_195 (by decide) ?_
      exact pu_zret hx hb hr hlocks (by decide) (Or.inl ⟨rfl, by first | exact sp_ns_of 1 (by decide) h_5 (by decide) (by decide) | exact sp_ns_of 3 (by decide) h_16 (by decide) (by decide) | exact sp_ns_of 4 (by decide) h_41 (by decide) (by decide) | exact sp_ns_of 5 (by decide) h_54 (by decide) (by decide) | exact sp_ns_of 6 (by decide) h_67 (by decide) (by decide) | exact sp_ns_of 7 (by decide) h_80 (by decide) (by decide) | exact sp_ns_of 8 (by decide) h_93 (by decide) (by decide) | exact sp_ns_of 10 (by decide) h_130 (by decide) (by decide) | exact sp_ns_of 11 (by decide) h_143 (by decide) (by decide) | exact sp_ns_of 12 (by decide) h_155 (by decide) (by decide) | exact sp_ns_of 13 (by decide) h_166 (by decide) (by decide) | exact sp_ns_of 14 (by decide) h_177 (by decide) (by decide) | exact sp_ns_of 15 (by decide) h_188 (by decide) (by decide) | exact sp_ns_of 0 (by decide) (sp_bt_eq c_25) (by decide) (by decide) | exact sp_ns_of 2 (by decide) (sp_bt_eq c_31) (by decide) (by decide) | exact sp_ns_of 9 (by decide) (sp_bt_eq c_113) (by decide) (by decide) | exact sp_ns_of 9 (by decide) (sp_bt_eq c_120) (by decide) (by decide)⟩) dX1_isStart_199
    · subst er16
      refine lv_if_ne (tgt := 99) hx hb dX1_isStart_19 (by decide) (fun c_19 => absurd c_19 (not_not_intro (by decide))) (fun c_19 => ?_)
      refine lv_iload_n hx hb dX1_isStart_22 rfl (lv_at hl 0 rfl) ?_
      refine lv_bipush (v := nI 58) hx hb dX1_isStart_23 (by decide) ?_
      refine lv_icmp_eq (tgt := 99) hx hb dX1_isStart_25 (by decide) (fun c_25 => ?_) (fun c_25 => ?_)
      · refine lv_iconst (v := nI 1) hx hb dX1_isStart_99 (by decide) ?_
        refine lv_goto (tgt := 104) hx hb dX1_isStart_100 (by decide) ?_
        refine lv_istore_n (lv' := [(1, .int (nI 1)), (0, .int q)]) hx hb dX1_isStart_104 rfl hl (by decide) rfl (fun ls hl => ?_)
        refine lv_iload_n hx hb dX1_isStart_105 rfl (lv_at hl 0 rfl) ?_
        refine lv_if_ne (tgt := 194) hx hb dX1_isStart_106 (by decide) (fun c_106 => ?_) (fun c_106 => absurd c_106 (by decide))
        refine lv_iconst (v := nI 1) hx hb dX1_isStart_194 (by decide) ?_
        refine lv_goto (tgt := 199) hx hb dX1_isStart_195 (by decide) ?_
        exact pu_zret hx hb hr hlocks (by decide) (Or.inl ⟨rfl, by first | exact sp_ns_of 1 (by decide) h_5 (by decide) (by decide) | exact sp_ns_of 3 (by decide) h_16 (by decide) (by decide) | exact sp_ns_of 4 (by decide) h_41 (by decide) (by decide) | exact sp_ns_of 5 (by decide) h_54 (by decide) (by decide) | exact sp_ns_of 6 (by decide) h_67 (by decide) (by decide) | exact sp_ns_of 7 (by decide) h_80 (by decide) (by decide) | exact sp_ns_of 8 (by decide) h_93 (by decide) (by decide) | exact sp_ns_of 10 (by decide) h_130 (by decide) (by decide) | exact sp_ns_of 11 (by decide) h_143 (by decide) (by decide) | exact sp_ns_of 12 (by decide) h_155 (by decide) (by decide) | exact sp_ns_of 13 (by decide) h_166 (by decide) (by decide) | exact sp_ns_of 14 (by decide) h_177 (by decide) (by decide) | exact sp_ns_of 15 (by decide) h_188 (by decide) (by decide) | exact sp_ns_of 0 (by decide) (sp_bt_eq c_25) (by decide) (by decide) | exact sp_ns_of 2 (by decide) (sp_bt_eq c_31) (by decide) (by decide) | exact sp_ns_of 9 (by decide) (sp_bt_eq c_113) (by decide) (by decide) | exact sp_ns_of 9 (by decide) (sp_bt_eq c_120) (by decide) (by decide)⟩) dX1_isStart_199
      · refine lv_iload_n hx hb dX1_isStart_28 rfl (lv_at hl 0 rfl) ?_
        refine lv_bipush (v := nI 95) hx hb dX1_isStart_29 (by decide) ?_
        refine lv_icmp_eq (tgt := 99) hx hb dX1_isStart_31 (by decide) (fun c_31 => ?_) (fun c_31 => ?_)
        · refine lv_iconst (v := nI 1) hx hb dX1_isStart_99 (by decide) ?_
          refine lv_goto (tgt := 104) hx hb dX1_isStart_100 (by decide) ?_
          refine lv_istore_n (lv' := [(1, .int (nI 1)), (0, .int q)]) hx hb dX1_isStart_104 rfl hl (by decide) rfl (fun ls hl => ?_)
          refine lv_iload_n hx hb dX1_isStart_105 rfl (lv_at hl 0 rfl) ?_
          refine lv_if_ne (tgt := 194) hx hb dX1_isStart_106 (by decide) (fun c_106 => ?_) (fun c_106 => absurd c_106 (by decide))
          refine lv_iconst (v := nI 1) hx hb dX1_isStart_194 (by decide) ?_
          refine lv_goto (tgt := 199) hx hb dX1_isStart_195 (by decide) ?_
          exact pu_zret hx hb hr hlocks (by decide) (Or.inl ⟨rfl, by first | exact sp_ns_of 1 (by decide) h_5 (by decide) (by decide) | exact sp_ns_of 3 (by decide) h_16 (by decide) (by decide) | exact sp_ns_of 4 (by decide) h_41 (by decide) (by decide) | exact sp_ns_of 5 (by decide) h_54 (by decide) (by decide) | exact sp_ns_of 6 (by decide) h_67 (by decide) (by decide) | exact sp_ns_of 7 (by decide) h_80 (by decide) (by decide) | exact sp_ns_of 8 (by decide) h_93 (by decide) (by decide) | exact sp_ns_of 10 (by decide) h_130 (by decide) (by decide) | exact sp_ns_of 11 (by decide) h_143 (by decide) (by decide) | exact sp_ns_of 12 (by decide) h_155 (by decide) (by decide) | exact sp_ns_of 13 (by decide) h_166 (by decide) (by decide) | exact sp_ns_of 14 (by decide) h_177 (by decide) (by decide) | exact sp_ns_of 15 (by decide) h_188 (by decide) (by decide) | exact sp_ns_of 0 (by decide) (sp_bt_eq c_25) (by decide) (by decide) | exact sp_ns_of 2 (by decide) (sp_bt_eq c_31) (by decide) (by decide) | exact sp_ns_of 9 (by decide) (sp_bt_eq c_113) (by decide) (by decide) | exact sp_ns_of 9 (by decide) (sp_bt_eq c_120) (by decide) (by decide)⟩) dX1_isStart_199
        · refine lv_iload_n hx hb dX1_isStart_34 rfl (lv_at hl 0 rfl) ?_
          refine lv_sipush (v := nI 192) hx hb dX1_isStart_35 (by decide) ?_
          refine lv_sipush (v := nI 214) hx hb dX1_isStart_38 (by decide) ?_
          refine vp_callSi (W.runS (As := [.int q, .int (nI 192), .int (nI 214)]) (rest := []) ⟨hx, hb, hml, hown, hts⟩ (km_isIn l D ws q (nI 192) (nI 214)) (va_cwS 3 hts gX1_isStart_X1_isIn rfl rfl rfl (by decide +kernel) ⟨Nat.le_of_ble_eq_true rfl, Nat.le_of_ble_eq_true rfl⟩) (pu_preS hK hP) rfl rfl hl.1 rfl (lv_room (Nat.le_of_ble_eq_true rfl)) dX1_isStart_41 ⟨Nat.zero_le _, Nat.zero_le _⟩) (fun r41 er41 => ?_)
          rcases er41 with ⟨er41, h_41⟩ | ⟨er41, h_41⟩
          · subst er41
            refine lv_if_ne (tgt := 99) hx hb dX1_isStart_44 (by decide) (fun c_44 => ?_) (fun c_44 => absurd c_44 (by decide))
            refine lv_iconst (v := nI 1) hx hb dX1_isStart_99 (by decide) ?_
            refine lv_goto (tgt := 104) hx hb dX1_isStart_100 (by decide) ?_
            refine lv_istore_n (lv' := [(1, .int (nI 1)), (0, .int q)]) hx hb dX1_isStart_104 rfl hl (by decide) rfl (fun ls hl => ?_)
            refine lv_iload_n hx hb dX1_isStart_105 rfl (lv_at hl 0 rfl) ?_
            refine lv_if_ne (tgt := 194) hx hb dX1_isStart_106 (by decide) (fun c_106 => ?_) (fun c_106 => absurd c_106 (by decide))
            refine lv_iconst (v := nI 1) hx hb dX1_isStart_194 (by decide) ?_
            refine lv_goto (tgt := 199) hx hb dX1_isStart_195 (by decide) ?_
            exact pu_zret hx hb hr hlocks (by decide) (Or.inl ⟨rfl, by first | exact sp_ns_of 1 (by decide) h_5 (by decide) (by decide) | exact sp_ns_of 3 (by decide) h_16 (by decide) (by decide) | exact sp_ns_of 4 (by decide) h_41 (by decide) (by decide) | exact sp_ns_of 5 (by decide) h_54 (by decide) (by decide) | exact sp_ns_of 6 (by decide) h_67 (by decide) (by decide) | exact sp_ns_of 7 (by decide) h_80 (by decide) (by decide) | exact sp_ns_of 8 (by decide) h_93 (by decide) (by decide) | exact sp_ns_of 10 (by decide) h_130 (by decide) (by decide) | exact sp_ns_of 11 (by decide) h_143 (by decide) (by decide) | exact sp_ns_of 12 (by decide) h_155 (by decide) (by decide) | exact sp_ns_of 13 (by decide) h_166 (by decide) (by decide) | exact sp_ns_of 14 (by decide) h_177 (by decide) (by decide) | exact sp_ns_of 15 (by decide) h_188 (by decide) (by decide) | exact sp_ns_of 0 (by decide) (sp_bt_eq c_25) (by decide) (by decide) | exact sp_ns_of 2 (by decide) (sp_bt_eq c_31) (by decide) (by decide) | exact sp_ns_of 9 (by decide) (sp_bt_eq c_113) (by decide) (by decide) | exact sp_ns_of 9 (by decide) (sp_bt_eq c_120) (by decide) (by decide)⟩) dX1_isStart_199
          · subst er41
            refine lv_if_ne (tgt := 99) hx hb dX1_isStart_44 (by decide) (fun c_44 => absurd c_44 (not_not_intro (by decide))) (fun c_44 => ?_)
            refine lv_iload_n hx hb dX1_isStart_47 rfl (lv_at hl 0 rfl) ?_
            refine lv_sipush (v := nI 216) hx hb dX1_isStart_48 (by decide) ?_
            refine lv_sipush (v := nI 246) hx hb dX1_isStart_51 (by decide) ?_
            refine vp_callSi (W.runS (As := [.int q, .int (nI 216), .int (nI 246)]) (rest := []) ⟨hx, hb, hml, hown, hts⟩ (km_isIn l D ws q (nI 216) (nI 246)) (va_cwS 3 hts gX1_isStart_X1_isIn rfl rfl rfl (by decide +kernel) ⟨Nat.le_of_ble_eq_true rfl, Nat.le_of_ble_eq_true rfl⟩) (pu_preS hK hP) rfl rfl hl.1 rfl (lv_room (Nat.le_of_ble_eq_true rfl)) dX1_isStart_54 ⟨Nat.zero_le _, Nat.zero_le _⟩) (fun r54 er54 => ?_)
            rcases er54 with ⟨er54, h_54⟩ | ⟨er54, h_54⟩
            · subst er54
              refine lv_if_ne (tgt := 99) hx hb dX1_isStart_57 (by decide) (fun c_57 => ?_) (fun c_57 => absurd c_57 (by decide))
              refine lv_iconst (v := nI 1) hx hb dX1_isStart_99 (by decide) ?_
              refine lv_goto (tgt := 104) hx hb dX1_isStart_100 (by decide) ?_
              refine lv_istore_n (lv' := [(1, .int (nI 1)), (0, .int q)]) hx hb dX1_isStart_104 rfl hl (by decide) rfl (fun ls hl => ?_)
              refine lv_iload_n hx hb dX1_isStart_105 rfl (lv_at hl 0 rfl) ?_
              refine lv_if_ne (tgt := 194) hx hb dX1_isStart_106 (by decide) (fun c_106 => ?_) (fun c_106 => absurd c_106 (by decide))
              refine lv_iconst (v := nI 1) hx hb dX1_isStart_194 (by decide) ?_
              refine lv_goto (tgt := 199) hx hb dX1_isStart_195 (by decide) ?_
              exact pu_zret hx hb hr hlocks (by decide) (Or.inl ⟨rfl, by first | exact sp_ns_of 1 (by decide) h_5 (by decide) (by decide) | exact sp_ns_of 3 (by decide) h_16 (by decide) (by decide) | exact sp_ns_of 4 (by decide) h_41 (by decide) (by decide) | exact sp_ns_of 5 (by decide) h_54 (by decide) (by decide) | exact sp_ns_of 6 (by decide) h_67 (by decide) (by decide) | exact sp_ns_of 7 (by decide) h_80 (by decide) (by decide) | exact sp_ns_of 8 (by decide) h_93 (by decide) (by decide) | exact sp_ns_of 10 (by decide) h_130 (by decide) (by decide) | exact sp_ns_of 11 (by decide) h_143 (by decide) (by decide) | exact sp_ns_of 12 (by decide) h_155 (by decide) (by decide) | exact sp_ns_of 13 (by decide) h_166 (by decide) (by decide) | exact sp_ns_of 14 (by decide) h_177 (by decide) (by decide) | exact sp_ns_of 15 (by decide) h_188 (by decide) (by decide) | exact sp_ns_of 0 (by decide) (sp_bt_eq c_25) (by decide) (by decide) | exact sp_ns_of 2 (by decide) (sp_bt_eq c_31) (by decide) (by decide) | exact sp_ns_of 9 (by decide) (sp_bt_eq c_113) (by decide) (by decide) | exact sp_ns_of 9 (by decide) (sp_bt_eq c_120) (by decide) (by decide)⟩) dX1_isStart_199
            · subst er54
              refine lv_if_ne (tgt := 99) hx hb dX1_isStart_57 (by decide) (fun c_57 => absurd c_57 (not_not_intro (by decide))) (fun c_57 => ?_)
              refine lv_iload_n hx hb dX1_isStart_60 rfl (lv_at hl 0 rfl) ?_
              refine lv_sipush (v := nI 248) hx hb dX1_isStart_61 (by decide) ?_
              refine lv_sipush (v := nI 767) hx hb dX1_isStart_64 (by decide) ?_
              refine vp_callSi (W.runS (As := [.int q, .int (nI 248), .int (nI 767)]) (rest := []) ⟨hx, hb, hml, hown, hts⟩ (km_isIn l D ws q (nI 248) (nI 767)) (va_cwS 3 hts gX1_isStart_X1_isIn rfl rfl rfl (by decide +kernel) ⟨Nat.le_of_ble_eq_true rfl, Nat.le_of_ble_eq_true rfl⟩) (pu_preS hK hP) rfl rfl hl.1 rfl (lv_room (Nat.le_of_ble_eq_true rfl)) dX1_isStart_67 ⟨Nat.zero_le _, Nat.zero_le _⟩) (fun r67 er67 => ?_)
              rcases er67 with ⟨er67, h_67⟩ | ⟨er67, h_67⟩
              · subst er67
                refine lv_if_ne (tgt := 99) hx hb dX1_isStart_70 (by decide) (fun c_70 => ?_) (fun c_70 => absurd c_70 (by decide))
                refine lv_iconst (v := nI 1) hx hb dX1_isStart_99 (by decide) ?_
                refine lv_goto (tgt := 104) hx hb dX1_isStart_100 (by decide) ?_
                refine lv_istore_n (lv' := [(1, .int (nI 1)), (0, .int q)]) hx hb dX1_isStart_104 rfl hl (by decide) rfl (fun ls hl => ?_)
                refine lv_iload_n hx hb dX1_isStart_105 rfl (lv_at hl 0 rfl) ?_
                refine lv_if_ne (tgt := 194) hx hb dX1_isStart_106 (by decide) (fun c_106 => ?_) (fun c_106 => absurd c_106 (by decide))
                refine lv_iconst (v := nI 1) hx hb dX1_isStart_194 (by decide) ?_
                refine lv_goto (tgt := 199) hx hb dX1_isStart_195 (by decide) ?_
                exact pu_zret hx hb hr hlocks (by decide) (Or.inl ⟨rfl, by first | exact sp_ns_of 1 (by decide) h_5 (by decide) (by decide) | exact sp_ns_of 3 (by decide) h_16 (by decide) (by decide) | exact sp_ns_of 4 (by decide) h_41 (by decide) (by decide) | exact sp_ns_of 5 (by decide) h_54 (by decide) (by decide) | exact sp_ns_of 6 (by decide) h_67 (by decide) (by decide) | exact sp_ns_of 7 (by decide) h_80 (by decide) (by decide) | exact sp_ns_of 8 (by decide) h_93 (by decide) (by decide) | exact sp_ns_of 10 (by decide) h_130 (by decide) (by decide) | exact sp_ns_of 11 (by decide) h_143 (by decide) (by decide) | exact sp_ns_of 12 (by decide) h_155 (by decide) (by decide) | exact sp_ns_of 13 (by decide) h_166 (by decide) (by decide) | exact sp_ns_of 14 (by decide) h_177 (by decide) (by decide) | exact sp_ns_of 15 (by decide) h_188 (by decide) (by decide) | exact sp_ns_of 0 (by decide) (sp_bt_eq c_25) (by decide) (by decide) | exact sp_ns_of 2 (by decide) (sp_bt_eq c_31) (by decide) (by decide) | exact sp_ns_of 9 (by decide) (sp_bt_eq c_113) (by decide) (by decide) | exact sp_ns_of 9 (by decide) (sp_bt_eq c_120) (by decide) (by decide)⟩) dX1_isStart_199
              · subst er67
                refine lv_if_ne (tgt := 99) hx hb dX1_isStart_70 (by decide) (fun c_70 => absurd c_70 (not_not_intro (by decide))) (fun c_70 => ?_)
                refine lv_iload_n hx hb dX1_isStart_73 rfl (lv_at hl 0 rfl) ?_
                refine lv_sipush (v := nI 880) hx hb dX1_isStart_74 (by decide) ?_
                refine lv_sipush (v := nI 893) hx hb dX1_isStart_77 (by decide) ?_
                refine vp_callSi (W.runS (As := [.int q, .int (nI 880), .int (nI 893)]) (rest := []) ⟨hx, hb, hml, hown, hts⟩ (km_isIn l D ws q (nI 880) (nI 893)) (va_cwS 3 hts gX1_isStart_X1_isIn rfl rfl rfl (by decide +kernel) ⟨Nat.le_of_ble_eq_true rfl, Nat.le_of_ble_eq_true rfl⟩) (pu_preS hK hP) rfl rfl hl.1 rfl (lv_room (Nat.le_of_ble_eq_true rfl)) dX1_isStart_80 ⟨Nat.zero_le _, Nat.zero_le _⟩) (fun r80 er80 => ?_)
                rcases er80 with ⟨er80, h_80⟩ | ⟨er80, h_80⟩
                · subst er80
                  refine lv_if_ne (tgt := 99) hx hb dX1_isStart_83 (by decide) (fun c_83 => ?_) (fun c_83 => absurd c_83 (by decide))
                  refine lv_iconst (v := nI 1) hx hb dX1_isStart_99 (by decide) ?_
                  refine lv_goto (tgt := 104) hx hb dX1_isStart_100 (by decide) ?_
                  refine lv_istore_n (lv' := [(1, .int (nI 1)), (0, .int q)]) hx hb dX1_isStart_104 rfl hl (by decide) rfl (fun ls hl => ?_)
                  refine lv_iload_n hx hb dX1_isStart_105 rfl (lv_at hl 0 rfl) ?_
                  refine lv_if_ne (tgt := 194) hx hb dX1_isStart_106 (by decide) (fun c_106 => ?_) (fun c_106 => absurd c_106 (by decide))
                  refine lv_iconst (v := nI 1) hx hb dX1_isStart_194 (by decide) ?_
                  refine lv_goto (tgt := 199) hx hb dX1_isStart_195 (by decide) ?_
                  exact pu_zret hx hb hr hlocks (by decide) (Or.inl ⟨rfl, by first | exact sp_ns_of 1 (by decide) h_5 (by decide) (by decide) | exact sp_ns_of 3 (by decide) h_16 (by decide) (by decide) | exact sp_ns_of 4 (by decide) h_41 (by decide) (by decide) | exact sp_ns_of 5 (by decide) h_54 (by decide) (by decide) | exact sp_ns_of 6 (by decide) h_67 (by decide) (by decide) | exact sp_ns_of 7 (by decide) h_80 (by decide) (by decide) | exact sp_ns_of 8 (by decide) h_93 (by decide) (by decide) | exact sp_ns_of 10 (by decide) h_130 (by decide) (by decide) | exact sp_ns_of 11 (by decide) h_143 (by decide) (by decide) | exact sp_ns_of 12 (by decide) h_155 (by decide) (by decide) | exact sp_ns_of 13 (by decide) h_166 (by decide) (by decide) | exact sp_ns_of 14 (by decide) h_177 (by decide) (by decide) | exact sp_ns_of 15 (by decide) h_188 (by decide) (by decide) | exact sp_ns_of 0 (by decide) (sp_bt_eq c_25) (by decide) (by decide) | exact sp_ns_of 2 (by decide) (sp_bt_eq c_31) (by decide) (by decide) | exact sp_ns_of 9 (by decide) (sp_bt_eq c_113) (by decide) (by decide) | exact sp_ns_of 9 (by decide) (sp_bt_eq c_120) (by decide) (by decide)⟩) dX1_isStart_199
                · subst er80
                  refine lv_if_ne (tgt := 99) hx hb dX1_isStart_83 (by decide) (fun c_83 => absurd c_83 (not_not_intro (by decide))) (fun c_83 => ?_)
                  refine lv_iload_n hx hb dX1_isStart_86 rfl (lv_at hl 0 rfl) ?_
                  refine lv_sipush (v := nI 895) hx hb dX1_isStart_87 (by decide) ?_
                  refine lv_sipush (v := nI 8191) hx hb dX1_isStart_90 (by decide) ?_
                  refine vp_callSi (W.runS (As := [.int q, .int (nI 895), .int (nI 8191)]) (rest := []) ⟨hx, hb, hml, hown, hts⟩ (km_isIn l D ws q (nI 895) (nI 8191)) (va_cwS 3 hts gX1_isStart_X1_isIn rfl rfl rfl (by decide +kernel) ⟨Nat.le_of_ble_eq_true rfl, Nat.le_of_ble_eq_true rfl⟩) (pu_preS hK hP) rfl rfl hl.1 rfl (lv_room (Nat.le_of_ble_eq_true rfl)) dX1_isStart_93 ⟨Nat.zero_le _, Nat.zero_le _⟩) (fun r93 er93 => ?_)
                  rcases er93 with ⟨er93, h_93⟩ | ⟨er93, h_93⟩
                  · subst er93
                    refine lv_if_eq (tgt := 103) hx hb dX1_isStart_96 (by decide) (fun c_96 => absurd c_96 (by decide)) (fun c_96 => ?_)
                    refine lv_iconst (v := nI 1) hx hb dX1_isStart_99 (by decide) ?_
                    refine lv_goto (tgt := 104) hx hb dX1_isStart_100 (by decide) ?_
                    refine lv_istore_n (lv' := [(1, .int (nI 1)), (0, .int q)]) hx hb dX1_isStart_104 rfl hl (by decide) rfl (fun ls hl => ?_)
                    refine lv_iload_n hx hb dX1_isStart_105 rfl (lv_at hl 0 rfl) ?_
                    refine lv_if_ne (tgt := 194) hx hb dX1_isStart_106 (by decide) (fun c_106 => ?_) (fun c_106 => absurd c_106 (by decide))
                    refine lv_iconst (v := nI 1) hx hb dX1_isStart_194 (by decide) ?_
                    refine lv_goto (tgt := 199) hx hb dX1_isStart_195 (by decide) ?_
                    exact pu_zret hx hb hr hlocks (by decide) (Or.inl ⟨rfl, by first | exact sp_ns_of 1 (by decide) h_5 (by decide) (by decide) | exact sp_ns_of 3 (by decide) h_16 (by decide) (by decide) | exact sp_ns_of 4 (by decide) h_41 (by decide) (by decide) | exact sp_ns_of 5 (by decide) h_54 (by decide) (by decide) | exact sp_ns_of 6 (by decide) h_67 (by decide) (by decide) | exact sp_ns_of 7 (by decide) h_80 (by decide) (by decide) | exact sp_ns_of 8 (by decide) h_93 (by decide) (by decide) | exact sp_ns_of 10 (by decide) h_130 (by decide) (by decide) | exact sp_ns_of 11 (by decide) h_143 (by decide) (by decide) | exact sp_ns_of 12 (by decide) h_155 (by decide) (by decide) | exact sp_ns_of 13 (by decide) h_166 (by decide) (by decide) | exact sp_ns_of 14 (by decide) h_177 (by decide) (by decide) | exact sp_ns_of 15 (by decide) h_188 (by decide) (by decide) | exact sp_ns_of 0 (by decide) (sp_bt_eq c_25) (by decide) (by decide) | exact sp_ns_of 2 (by decide) (sp_bt_eq c_31) (by decide) (by decide) | exact sp_ns_of 9 (by decide) (sp_bt_eq c_113) (by decide) (by decide) | exact sp_ns_of 9 (by decide) (sp_bt_eq c_120) (by decide) (by decide)⟩) dX1_isStart_199
                  · subst er93
                    refine lv_if_eq (tgt := 103) hx hb dX1_isStart_96 (by decide) (fun c_96 => ?_) (fun c_96 => absurd c_96 (not_not_intro (by decide)))
                    refine lv_iconst (v := nI 0) hx hb dX1_isStart_103 (by decide) ?_
                    refine lv_istore_n (lv' := [(1, .int (nI 0)), (0, .int q)]) hx hb dX1_isStart_104 rfl hl (by decide) rfl (fun ls hl => ?_)
                    refine lv_iload_n hx hb dX1_isStart_105 rfl (lv_at hl 0 rfl) ?_
                    refine lv_if_ne (tgt := 194) hx hb dX1_isStart_106 (by decide) (fun c_106 => absurd c_106 (not_not_intro (by decide))) (fun c_106 => ?_)
                    refine lv_iload_n hx hb dX1_isStart_109 rfl (lv_at hl 1 rfl) ?_
                    refine lv_sipush (v := nI 8204) hx hb dX1_isStart_110 (by decide) ?_
                    refine lv_icmp_eq (tgt := 194) hx hb dX1_isStart_113 (by decide) (fun c_113 => ?_) (fun c_113 => ?_)
                    · refine lv_iconst (v := nI 1) hx hb dX1_isStart_194 (by decide) ?_
                      refine lv_goto (tgt := 199) hx hb dX1_isStart_195 (by decide) ?_
                      exact pu_zret hx hb hr hlocks (by decide) (Or.inl ⟨rfl, by first | exact sp_ns_of 1 (by decide) h_5 (by decide) (by decide) | exact sp_ns_of 3 (by decide) h_16 (by decide) (by decide) | exact sp_ns_of 4 (by decide) h_41 (by decide) (by decide) | exact sp_ns_of 5 (by decide) h_54 (by decide) (by decide) | exact sp_ns_of 6 (by decide) h_67 (by decide) (by decide) | exact sp_ns_of 7 (by decide) h_80 (by decide) (by decide) | exact sp_ns_of 8 (by decide) h_93 (by decide) (by decide) | exact sp_ns_of 10 (by decide) h_130 (by decide) (by decide) | exact sp_ns_of 11 (by decide) h_143 (by decide) (by decide) | exact sp_ns_of 12 (by decide) h_155 (by decide) (by decide) | exact sp_ns_of 13 (by decide) h_166 (by decide) (by decide) | exact sp_ns_of 14 (by decide) h_177 (by decide) (by decide) | exact sp_ns_of 15 (by decide) h_188 (by decide) (by decide) | exact sp_ns_of 0 (by decide) (sp_bt_eq c_25) (by decide) (by decide) | exact sp_ns_of 2 (by decide) (sp_bt_eq c_31) (by decide) (by decide) | exact sp_ns_of 9 (by decide) (sp_bt_eq c_113) (by decide) (by decide) | exact sp_ns_of 9 (by decide) (sp_bt_eq c_120) (by decide) (by decide)⟩) dX1_isStart_199
                    · refine lv_iload_n hx hb dX1_isStart_116 rfl (lv_at hl 1 rfl) ?_
                      refine lv_sipush (v := nI 8205) hx hb dX1_isStart_117 (by decide) ?_
                      refine lv_icmp_eq (tgt := 194) hx hb dX1_isStart_120 (by decide) (fun c_120 => ?_) (fun c_120 => ?_)
                      · refine lv_iconst (v := nI 1) hx hb dX1_isStart_194 (by decide) ?_
                        refine lv_goto (tgt := 199) hx hb dX1_isStart_195 (by decide) ?_
                        exact pu_zret hx hb hr hlocks (by decide) (Or.inl ⟨rfl, by first | exact sp_ns_of 1 (by decide) h_5 (by decide) (by decide) | exact sp_ns_of 3 (by decide) h_16 (by decide) (by decide) | exact sp_ns_of 4 (by decide) h_41 (by decide) (by decide) | exact sp_ns_of 5 (by decide) h_54 (by decide) (by decide) | exact sp_ns_of 6 (by decide) h_67 (by decide) (by decide) | exact sp_ns_of 7 (by decide) h_80 (by decide) (by decide) | exact sp_ns_of 8 (by decide) h_93 (by decide) (by decide) | exact sp_ns_of 10 (by decide) h_130 (by decide) (by decide) | exact sp_ns_of 11 (by decide) h_143 (by decide) (by decide) | exact sp_ns_of 12 (by decide) h_155 (by decide) (by decide) | exact sp_ns_of 13 (by decide) h_166 (by decide) (by decide) | exact sp_ns_of 14 (by decide) h_177 (by decide) (by decide) | exact sp_ns_of 15 (by decide) h_188 (by decide) (by decide) | exact sp_ns_of 0 (by decide) (sp_bt_eq c_25) (by decide) (by decide) | exact sp_ns_of 2 (by decide) (sp_bt_eq c_31) (by decide) (by decide) | exact sp_ns_of 9 (by decide) (sp_bt_eq c_113) (by decide) (by decide) | exact sp_ns_of 9 (by decide) (sp_bt_eq c_120) (by decide) (by decide)⟩) dX1_isStart_199
                      · refine lv_iload_n hx hb dX1_isStart_123 rfl (lv_at hl 1 rfl) ?_
                        refine lv_sipush (v := nI 8304) hx hb dX1_isStart_124 (by decide) ?_
                        refine lv_sipush (v := nI 8591) hx hb dX1_isStart_127 (by decide) ?_
                        refine vp_callSi (W.runS (As := [.int q, .int (nI 8304), .int (nI 8591)]) (rest := []) ⟨hx, hb, hml, hown, hts⟩ (km_isIn l D ws q (nI 8304) (nI 8591)) (va_cwS 3 hts gX1_isStart_X1_isIn rfl rfl rfl (by decide +kernel) ⟨Nat.le_of_ble_eq_true rfl, Nat.le_of_ble_eq_true rfl⟩) (pu_preS hK hP) rfl rfl hl.1 rfl (lv_room (Nat.le_of_ble_eq_true rfl)) dX1_isStart_130 ⟨Nat.zero_le _, Nat.zero_le _⟩) (fun r130 er130 => ?_)
                        rcases er130 with ⟨er130, h_130⟩ | ⟨er130, h_130⟩
                        · subst er130
                          refine lv_if_ne (tgt := 194) hx hb dX1_isStart_133 (by decide) (fun c_133 => ?_) (fun c_133 => absurd c_133 (by decide))
                          refine lv_iconst (v := nI 1) hx hb dX1_isStart_194 (by decide) ?_
                          refine lv_goto (tgt := 199) hx hb dX1_isStart_195 (by decide) ?_
                          exact pu_zret hx hb hr hlocks (by decide) (Or.inl ⟨rfl, by first | exact sp_ns_of 1 (by decide) h_5 (by decide) (by decide) | exact sp_ns_of 3 (by decide) h_16 (by decide) (by decide) | exact sp_ns_of 4 (by decide) h_41 (by decide) (by decide) | exact sp_ns_of 5 (by decide) h_54 (by decide) (by decide) | exact sp_ns_of 6 (by decide) h_67 (by decide) (by decide) | exact sp_ns_of 7 (by decide) h_80 (by decide) (by decide) | exact sp_ns_of 8 (by decide) h_93 (by decide) (by decide) | exact sp_ns_of 10 (by decide) h_130 (by decide) (by decide) | exact sp_ns_of 11 (by decide) h_143 (by decide) (by decide) | exact sp_ns_of 12 (by decide) h_155 (by decide) (by decide) | exact sp_ns_of 13 (by decide) h_166 (by decide) (by decide) | exact sp_ns_of 14 (by decide) h_177 (by decide) (by decide) | exact sp_ns_of 15 (by decide) h_188 (by decide) (by decide) | exact sp_ns_of 0 (by decide) (sp_bt_eq c_25) (by decide) (by decide) | exact sp_ns_of 2 (by decide) (sp_bt_eq c_31) (by decide) (by decide) | exact sp_ns_of 9 (by decide) (sp_bt_eq c_113) (by decide) (by decide) | exact sp_ns_of 9 (by decide) (sp_bt_eq c_120) (by decide) (by decide)⟩) dX1_isStart_199
                        · subst er130
                          refine lv_if_ne (tgt := 194) hx hb dX1_isStart_133 (by decide) (fun c_133 => absurd c_133 (not_not_intro (by decide))) (fun c_133 => ?_)
                          refine lv_iload_n hx hb dX1_isStart_136 rfl (lv_at hl 1 rfl) ?_
                          refine lv_sipush (v := nI 11264) hx hb dX1_isStart_137 (by decide) ?_
                          refine lv_sipush (v := nI 12271) hx hb dX1_isStart_140 (by decide) ?_
                          refine vp_callSi (W.runS (As := [.int q, .int (nI 11264), .int (nI 12271)]) (rest := []) ⟨hx, hb, hml, hown, hts⟩ (km_isIn l D ws q (nI 11264) (nI 12271)) (va_cwS 3 hts gX1_isStart_X1_isIn rfl rfl rfl (by decide +kernel) ⟨Nat.le_of_ble_eq_true rfl, Nat.le_of_ble_eq_true rfl⟩) (pu_preS hK hP) rfl rfl hl.1 rfl (lv_room (Nat.le_of_ble_eq_true rfl)) dX1_isStart_143 ⟨Nat.zero_le _, Nat.zero_le _⟩) (fun r143 er143 => ?_)
                          rcases er143 with ⟨er143, h_143⟩ | ⟨er143, h_143⟩
                          · subst er143
                            refine lv_if_ne (tgt := 194) hx hb dX1_isStart_146 (by decide) (fun c_146 => ?_) (fun c_146 => absurd c_146 (by decide))
                            refine lv_iconst (v := nI 1) hx hb dX1_isStart_194 (by decide) ?_
                            refine lv_goto (tgt := 199) hx hb dX1_isStart_195 (by decide) ?_
                            exact pu_zret hx hb hr hlocks (by decide) (Or.inl ⟨rfl, by first | exact sp_ns_of 1 (by decide) h_5 (by decide) (by decide) | exact sp_ns_of 3 (by decide) h_16 (by decide) (by decide) | exact sp_ns_of 4 (by decide) h_41 (by decide) (by decide) | exact sp_ns_of 5 (by decide) h_54 (by decide) (by decide) | exact sp_ns_of 6 (by decide) h_67 (by decide) (by decide) | exact sp_ns_of 7 (by decide) h_80 (by decide) (by decide) | exact sp_ns_of 8 (by decide) h_93 (by decide) (by decide) | exact sp_ns_of 10 (by decide) h_130 (by decide) (by decide) | exact sp_ns_of 11 (by decide) h_143 (by decide) (by decide) | exact sp_ns_of 12 (by decide) h_155 (by decide) (by decide) | exact sp_ns_of 13 (by decide) h_166 (by decide) (by decide) | exact sp_ns_of 14 (by decide) h_177 (by decide) (by decide) | exact sp_ns_of 15 (by decide) h_188 (by decide) (by decide) | exact sp_ns_of 0 (by decide) (sp_bt_eq c_25) (by decide) (by decide) | exact sp_ns_of 2 (by decide) (sp_bt_eq c_31) (by decide) (by decide) | exact sp_ns_of 9 (by decide) (sp_bt_eq c_113) (by decide) (by decide) | exact sp_ns_of 9 (by decide) (sp_bt_eq c_120) (by decide) (by decide)⟩) dX1_isStart_199
                          · subst er143
                            refine lv_if_ne (tgt := 194) hx hb dX1_isStart_146 (by decide) (fun c_146 => absurd c_146 (not_not_intro (by decide))) (fun c_146 => ?_)
                            refine lv_iload_n hx hb dX1_isStart_149 rfl (lv_at hl 1 rfl) ?_
                            refine lv_sipush (v := nI 12289) hx hb dX1_isStart_150 (by decide) ?_
                            refine lv_ldc (v := nI 55295) hx hb hown (hts (.constant RX1 61 (nI 55295)) (by decide +kernel)) dX1_isStart_153 ?_
                            refine vp_callSi (W.runS (As := [.int q, .int (nI 12289), .int (nI 55295)]) (rest := []) ⟨hx, hb, hml, hown, hts⟩ (km_isIn l D ws q (nI 12289) (nI 55295)) (va_cwS 3 hts gX1_isStart_X1_isIn rfl rfl rfl (by decide +kernel) ⟨Nat.le_of_ble_eq_true rfl, Nat.le_of_ble_eq_true rfl⟩) (pu_preS hK hP) rfl rfl hl.1 rfl (lv_room (Nat.le_of_ble_eq_true rfl)) dX1_isStart_155 ⟨Nat.zero_le _, Nat.zero_le _⟩) (fun r155 er155 => ?_)
                            rcases er155 with ⟨er155, h_155⟩ | ⟨er155, h_155⟩
                            · subst er155
                              refine lv_if_ne (tgt := 194) hx hb dX1_isStart_158 (by decide) (fun c_158 => ?_) (fun c_158 => absurd c_158 (by decide))
                              refine lv_iconst (v := nI 1) hx hb dX1_isStart_194 (by decide) ?_
                              refine lv_goto (tgt := 199) hx hb dX1_isStart_195 (by decide) ?_
                              exact pu_zret hx hb hr hlocks (by decide) (Or.inl ⟨rfl, by first | exact sp_ns_of 1 (by decide) h_5 (by decide) (by decide) | exact sp_ns_of 3 (by decide) h_16 (by decide) (by decide) | exact sp_ns_of 4 (by decide) h_41 (by decide) (by decide) | exact sp_ns_of 5 (by decide) h_54 (by decide) (by decide) | exact sp_ns_of 6 (by decide) h_67 (by decide) (by decide) | exact sp_ns_of 7 (by decide) h_80 (by decide) (by decide) | exact sp_ns_of 8 (by decide) h_93 (by decide) (by decide) | exact sp_ns_of 10 (by decide) h_130 (by decide) (by decide) | exact sp_ns_of 11 (by decide) h_143 (by decide) (by decide) | exact sp_ns_of 12 (by decide) h_155 (by decide) (by decide) | exact sp_ns_of 13 (by decide) h_166 (by decide) (by decide) | exact sp_ns_of 14 (by decide) h_177 (by decide) (by decide) | exact sp_ns_of 15 (by decide) h_188 (by decide) (by decide) | exact sp_ns_of 0 (by decide) (sp_bt_eq c_25) (by decide) (by decide) | exact sp_ns_of 2 (by decide) (sp_bt_eq c_31) (by decide) (by decide) | exact sp_ns_of 9 (by decide) (sp_bt_eq c_113) (by decide) (by decide) | exact sp_ns_of 9 (by decide) (sp_bt_eq c_120) (by decide) (by decide)⟩) dX1_isStart_199
                            · subst er155
                              refine lv_if_ne (tgt := 194) hx hb dX1_isStart_158 (by decide) (fun c_158 => absurd c_158 (not_not_intro (by decide))) (fun c_158 => ?_)
                              refine lv_iload_n hx hb dX1_isStart_161 rfl (lv_at hl 1 rfl) ?_
                              refine lv_ldc (v := nI 63744) hx hb hown (hts (.constant RX1 62 (nI 63744)) (by decide +kernel)) dX1_isStart_162 ?_
                              refine lv_ldc (v := nI 64975) hx hb hown (hts (.constant RX1 63 (nI 64975)) (by decide +kernel)) dX1_isStart_164 ?_
                              refine vp_callSi (W.runS (As := [.int q, .int (nI 63744), .int (nI 64975)]) (rest := []) ⟨hx, hb, hml, hown, hts⟩ (km_isIn l D ws q (nI 63744) (nI 64975)) (va_cwS 3 hts gX1_isStart_X1_isIn rfl rfl rfl (by decide +kernel) ⟨Nat.le_of_ble_eq_true rfl, Nat.le_of_ble_eq_true rfl⟩) (pu_preS hK hP) rfl rfl hl.1 rfl (lv_room (Nat.le_of_ble_eq_true rfl)) dX1_isStart_166 ⟨Nat.zero_le _, Nat.zero_le _⟩) (fun r166 er166 => ?_)
                              rcases er166 with ⟨er166, h_166⟩ | ⟨er166, h_166⟩
                              · subst er166
                                refine lv_if_ne (tgt := 194) hx hb dX1_isStart_169 (by decide) (fun c_169 => ?_) (fun c_169 => absurd c_169 (by decide))
                                refine lv_iconst (v := nI 1) hx hb dX1_isStart_194 (by decide) ?_
                                refine lv_goto (tgt := 199) hx hb dX1_isStart_195 (by decide) ?_
                                exact pu_zret hx hb hr hlocks (by decide) (Or.inl ⟨rfl, by first | exact sp_ns_of 1 (by decide) h_5 (by decide) (by decide) | exact sp_ns_of 3 (by decide) h_16 (by decide) (by decide) | exact sp_ns_of 4 (by decide) h_41 (by decide) (by decide) | exact sp_ns_of 5 (by decide) h_54 (by decide) (by decide) | exact sp_ns_of 6 (by decide) h_67 (by decide) (by decide) | exact sp_ns_of 7 (by decide) h_80 (by decide) (by decide) | exact sp_ns_of 8 (by decide) h_93 (by decide) (by decide) | exact sp_ns_of 10 (by decide) h_130 (by decide) (by decide) | exact sp_ns_of 11 (by decide) h_143 (by decide) (by decide) | exact sp_ns_of 12 (by decide) h_155 (by decide) (by decide) | exact sp_ns_of 13 (by decide) h_166 (by decide) (by decide) | exact sp_ns_of 14 (by decide) h_177 (by decide) (by decide) | exact sp_ns_of 15 (by decide) h_188 (by decide) (by decide) | exact sp_ns_of 0 (by decide) (sp_bt_eq c_25) (by decide) (by decide) | exact sp_ns_of 2 (by decide) (sp_bt_eq c_31) (by decide) (by decide) | exact sp_ns_of 9 (by decide) (sp_bt_eq c_113) (by decide) (by decide) | exact sp_ns_of 9 (by decide) (sp_bt_eq c_120) (by decide) (by decide)⟩) dX1_isStart_199
                              · subst er166
                                refine lv_if_ne (tgt := 194) hx hb dX1_isStart_169 (by decide) (fun c_169 => absurd c_169 (not_not_intro (by decide))) (fun c_169 => ?_)
                                refine lv_iload_n hx hb dX1_isStart_172 rfl (lv_at hl 1 rfl) ?_
                                refine lv_ldc (v := nI 65008) hx hb hown (hts (.constant RX1 64 (nI 65008)) (by decide +kernel)) dX1_isStart_173 ?_
                                refine lv_ldc (v := nI 65533) hx hb hown (hts (.constant RX1 65 (nI 65533)) (by decide +kernel)) dX1_isStart_175 ?_
                                refine vp_callSi (W.runS (As := [.int q, .int (nI 65008), .int (nI 65533)]) (rest := []) ⟨hx, hb, hml, hown, hts⟩ (km_isIn l D ws q (nI 65008) (nI 65533)) (va_cwS 3 hts gX1_isStart_X1_isIn rfl rfl rfl (by decide +kernel) ⟨Nat.le_of_ble_eq_true rfl, Nat.le_of_ble_eq_true rfl⟩) (pu_preS hK hP) rfl rfl hl.1 rfl (lv_room (Nat.le_of_ble_eq_true rfl)) dX1_isStart_177 ⟨Nat.zero_le _, Nat.zero_le _⟩) (fun r177 er177 => ?_)
                                rcases er177 with ⟨er177, h_177⟩ | ⟨er177, h_177⟩
                                · subst er177
                                  refine lv_if_ne (tgt := 194) hx hb dX1_isStart_180 (by decide) (fun c_180 => ?_) (fun c_180 => absurd c_180 (by decide))
                                  refine lv_iconst (v := nI 1) hx hb dX1_isStart_194 (by decide) ?_
                                  refine lv_goto (tgt := 199) hx hb dX1_isStart_195 (by decide) ?_
                                  exact pu_zret hx hb hr hlocks (by decide) (Or.inl ⟨rfl, by first | exact sp_ns_of 1 (by decide) h_5 (by decide) (by decide) | exact sp_ns_of 3 (by decide) h_16 (by decide) (by decide) | exact sp_ns_of 4 (by decide) h_41 (by decide) (by decide) | exact sp_ns_of 5 (by decide) h_54 (by decide) (by decide) | exact sp_ns_of 6 (by decide) h_67 (by decide) (by decide) | exact sp_ns_of 7 (by decide) h_80 (by decide) (by decide) | exact sp_ns_of 8 (by decide) h_93 (by decide) (by decide) | exact sp_ns_of 10 (by decide) h_130 (by decide) (by decide) | exact sp_ns_of 11 (by decide) h_143 (by decide) (by decide) | exact sp_ns_of 12 (by decide) h_155 (by decide) (by decide) | exact sp_ns_of 13 (by decide) h_166 (by decide) (by decide) | exact sp_ns_of 14 (by decide) h_177 (by decide) (by decide) | exact sp_ns_of 15 (by decide) h_188 (by decide) (by decide) | exact sp_ns_of 0 (by decide) (sp_bt_eq c_25) (by decide) (by decide) | exact sp_ns_of 2 (by decide) (sp_bt_eq c_31) (by decide) (by decide) | exact sp_ns_of 9 (by decide) (sp_bt_eq c_113) (by decide) (by decide) | exact sp_ns_of 9 (by decide) (sp_bt_eq c_120) (by decide) (by decide)⟩) dX1_isStart_199
                                · subst er177
                                  refine lv_if_ne (tgt := 194) hx hb dX1_isStart_180 (by decide) (fun c_180 => absurd c_180 (not_not_intro (by decide))) (fun c_180 => ?_)
                                  refine lv_iload_n hx hb dX1_isStart_183 rfl (lv_at hl 1 rfl) ?_
                                  refine lv_ldc (v := nI 65536) hx hb hown (hts (.constant RX1 66 (nI 65536)) (by decide +kernel)) dX1_isStart_184 ?_
                                  refine lv_ldc (v := nI 983039) hx hb hown (hts (.constant RX1 67 (nI 983039)) (by decide +kernel)) dX1_isStart_186 ?_
                                  refine vp_callSi (W.runS (As := [.int q, .int (nI 65536), .int (nI 983039)]) (rest := []) ⟨hx, hb, hml, hown, hts⟩ (km_isIn l D ws q (nI 65536) (nI 983039)) (va_cwS 3 hts gX1_isStart_X1_isIn rfl rfl rfl (by decide +kernel) ⟨Nat.le_of_ble_eq_true rfl, Nat.le_of_ble_eq_true rfl⟩) (pu_preS hK hP) rfl rfl hl.1 rfl (lv_room (Nat.le_of_ble_eq_true rfl)) dX1_isStart_188 ⟨Nat.zero_le _, Nat.zero_le _⟩) (fun r188 er188 => ?_)
                                  rcases er188 with ⟨er188, h_188⟩ | ⟨er188, h_188⟩
                                  · subst er188
                                    refine lv_if_eq (tgt := 198) hx hb dX1_isStart_191 (by decide) (fun c_191 => absurd c_191 (by decide)) (fun c_191 => ?_)
                                    refine lv_iconst (v := nI 1) hx hb dX1_isStart_194 (by decide) ?_
                                    refine lv_goto (tgt := 199) hx hb dX1_isStart_195 (by decide) ?_
                                    exact pu_zret hx hb hr hlocks (by decide) (Or.inl ⟨rfl, by first | exact sp_ns_of 1 (by decide) h_5 (by decide) (by decide) | exact sp_ns_of 3 (by decide) h_16 (by decide) (by decide) | exact sp_ns_of 4 (by decide) h_41 (by decide) (by decide) | exact sp_ns_of 5 (by decide) h_54 (by decide) (by decide) | exact sp_ns_of 6 (by decide) h_67 (by decide) (by decide) | exact sp_ns_of 7 (by decide) h_80 (by decide) (by decide) | exact sp_ns_of 8 (by decide) h_93 (by decide) (by decide) | exact sp_ns_of 10 (by decide) h_130 (by decide) (by decide) | exact sp_ns_of 11 (by decide) h_143 (by decide) (by decide) | exact sp_ns_of 12 (by decide) h_155 (by decide) (by decide) | exact sp_ns_of 13 (by decide) h_166 (by decide) (by decide) | exact sp_ns_of 14 (by decide) h_177 (by decide) (by decide) | exact sp_ns_of 15 (by decide) h_188 (by decide) (by decide) | exact sp_ns_of 0 (by decide) (sp_bt_eq c_25) (by decide) (by decide) | exact sp_ns_of 2 (by decide) (sp_bt_eq c_31) (by decide) (by decide) | exact sp_ns_of 9 (by decide) (sp_bt_eq c_113) (by decide) (by decide) | exact sp_ns_of 9 (by decide) (sp_bt_eq c_120) (by decide) (by decide)⟩) dX1_isStart_199
                                  · subst er188
                                    refine lv_if_eq (tgt := 198) hx hb dX1_isStart_191 (by decide) (fun c_191 => ?_) (fun c_191 => absurd c_191 (not_not_intro (by decide)))
                                    refine lv_iconst (v := nI 0) hx hb dX1_isStart_198 (by decide) ?_
                                    exact pu_zret hx hb hr hlocks (by decide) (Or.inr ⟨rfl, md_ns_no c_25 h_5 c_31 h_16 h_41 h_54 h_67 h_80 h_93 c_113 c_120 h_130 h_143 h_155 h_166 h_177 h_188⟩) dX1_isStart_199
set_option maxHeartbeats 4000000 in
set_option maxRecDepth 100000 in
/-- colon -/
theorem km_colon (l : Launch) (D : va_G) {tys : List (ClassId × FieldType)} {cI : ClassId} (hty : tys[0]? = some (cI, .int)) (m0 ms mt ml md mk : Nat) (wr : va_W) (sg ta le dr so : Nat → Int32) (us rc n sn : Nat) (S : Nat → Nat) (hM : md_S ta le us rc S) (k : Int32) : Met l yX1_colon wsX1_colon ({ frames := 2, cells := 0, slots := 0, locals := 50 }) (pu_Pc D vwCl (md_W cI m0 ms mt ml md mk wr sg ta le dr so us rc n sn) tys [.ref m0, .int k]) (vp_Si (fun r => r = sp_colon (cn_rows sg S 1 rc) k)) 0 0 (fun _ => False) := by
  refine pu_of (cc := cX1_colon) (maxL := 6) (ret := some .int) (own := RX1) (by decide) rfl rfl (Nat.le_of_ble_eq_true rfl) ?_
  intro p e s m below meth c hx hb hr hts hown hlocks hml hP hK ls hl
  have hl : lv_has ls 6 [(0, .ref m0), (1, .int k)] := hl
  have hin1 : ∀ w ∈ u_ws RX1 TX1 9, w ∈ wsX1_colon := by decide +kernel
  have f7 := hts (.fieldLink RX1 7 "NameNumbersModel" "signs" "[I") (by decide +kernel)
  have f13 := hts (.fieldLink RX1 13 "NameNumbersModel" "starts" "[I") (by decide +kernel)
  have f16 := hts (.fieldLink RX1 16 "NameNumbersModel" "lengths" "[I") (by decide +kernel)
  refine lv_aload_n hx hb dX1_colon_0 rfl (lv_at hl 0 rfl) ?_
  refine lv_iload_n hx hb dX1_colon_1 rfl (lv_at hl 1 rfl) ?_
  refine vp_callSi (W.runV (As := [.int k]) (rest := []) ⟨hx, hb, hml, hown, hts⟩ (km_isRow l D hty m0 ms mt ml md mk wr sg ta le dr so us rc n sn hM.2.2.2.2.2 k) (cwV 1 hts gX1_colon_X1_isRow rfl rfl rfl (by decide +kernel) ⟨Nat.le_of_ble_eq_true rfl, Nat.le_of_ble_eq_true rfl⟩) (pu_preV hK hP 0 rfl rfl) rfl rfl hl.1 rfl (lv_room (Nat.le_of_ble_eq_true rfl)) dX1_colon_2 ⟨Nat.zero_le _, Nat.zero_le _⟩) (fun r2 er2 => ?_)
  rcases er2 with ⟨er2, hk_k⟩ | ⟨er2, hk_k⟩
  · subst er2
    obtain ⟨k', h1_k, h2_k, rfl⟩ := hk_k
    have hw_k := cn_row_yes (ch := sg) (md_R hM) h1_k h2_k
    refine lv_if_ne (tgt := 11) hx hb dX1_colon_5 (by decide) (fun c_5 => ?_) (fun c_5 => absurd c_5 (by decide))
    have htk := cn_top (md_R hM) (k := k' + 1) (by omega) (by omega)
    have hlk := hM.2.2.1 k' h1_k h2_k
    have hrc := hM.2.2.2.2.2
    refine lv_iconst (v := nI 0) hx hb dX1_colon_11 (by decide) ?_
    refine lv_istore_n (lv' := [(2, .int (nI 0)), (0, .ref m0), (1, .int (nI k'))]) hx hb dX1_colon_12 rfl hl (by decide) rfl (fun ls hl => ?_)
    refine lv_iconst (v := nI 0) hx hb dX1_colon_13 (by decide) ?_
    refine lv_istore_n (lv' := [(3, .int (nI 0)), (2, .int (nI 0)), (0, .ref m0), (1, .int (nI k'))]) hx hb dX1_colon_14 rfl hl (by decide) rfl (fun ls hl => ?_)
    refine lv_iconst (v := nI 0) hx hb dX1_colon_15 (by decide) ?_
    refine lv_istore (lv' := [(4, .int (nI 0)), (3, .int (nI 0)), (2, .int (nI 0)), (0, .ref m0), (1, .int (nI k'))]) hx hb dX1_colon_16 hl (by decide) rfl (fun ls hl => ?_)
    have loop : ∀ (j : Nat) (i : Nat) (mn : Nat) (la : Nat) (ls : Array Slot), (S (k' + 1) - S k') + 1 ≤ i + j → i ≤ (S (k' + 1) - S k') → mn ≤ i → la ≤ i → md_ci sg (S k') i mn la → lv_has ls 6 [(0, .ref m0), (1, .int (nI k')), (2, .int (nI mn)), (3, .int (nI la)), (4, .int (nI i))] → W p l e { frames := 2, cells := 0, slots := 0, locals := 50 } s m [.ref m0, .int (nI k')].toArray below meth c s.heap [] 0 0 (MQ below (vp_Si (fun r => r = sp_colon (cn_rows sg S 1 rc) (nI k'))) [.ref m0, .int (nI k')].toArray s 0 0 (fun _ => False)) (F0 m 18 ls []) := by
      intro j
      induction j with
      | zero => intro i mn la ls hj hi hmn hla hinv hl; exfalso; omega
      | succ j ih =>
        intro i mn la ls hj hi hmn hla hinv hl
        refine lv_iload hx hb dX1_colon_18 (lv_at hl 4 rfl) ?_
        refine lv_aload_n hx hb dX1_colon_20 rfl (lv_at hl 0 rfl) ?_
        refine va_get (D := D) (ci := 1) (v := .ref ml) (C := RX1) (T := TX1) (N := 9) hx hb hts hin1 hown hK hP 0 rfl rfl 3 (by decide) f16 (fun _ h9 => h9) rfl dX1_colon_21 ?_
        refine lv_iload_n hx hb dX1_colon_24 rfl (lv_at hl 1 rfl) ?_
        refine rn_ald (v := nI (S (k' + 1) - S k')) hx hb hK hP 3 0 rfl hty (by have := hM.2.2.2.2.2; omega) (by decide) ((hM.2.1 k' (by omega) (by omega)).2) dX1_colon_25 ?_
        refine rn_icmp_ge (tgt := 86) hx hb (by omega) (by omega) dX1_colon_26 (by decide) (fun c_26 => ?_) (fun c_26 => ?_)
        · have hin : i = S (k' + 1) - S k' := by omega
          subst hin
          refine lv_iload_n hx hb dX1_colon_86 rfl (lv_at hl 2 rfl) ?_
          refine lv_if_ne (tgt := 92) hx hb dX1_colon_87 (by decide) (fun c_87 => ?_) (fun c_87 => ?_)
          · refine lv_iload_n hx hb dX1_colon_92 rfl (lv_at hl 2 rfl) ?_
            refine lv_iconst (v := nI 1) hx hb dX1_colon_93 (by decide) ?_
            refine rn_icmp_ne (tgt := 138) hx hb (by omega) (by omega) dX1_colon_94 (by decide) (fun c_94 => ?_) (fun c_94 => ?_)
            · refine lv_iconst (v := nI 0) hx hb dX1_colon_138 (by decide) ?_
              refine lv_istore (lv' := [(4, .int (nI 0)), (0, .ref m0), (1, .int (nI k')), (2, .int (nI mn)), (3, .int (nI la))]) hx hb dX1_colon_139 hl (by decide) rfl (fun ls hl => ?_)
              refine lv_iload hx hb dX1_colon_141 (lv_at hl 0 rfl) ?_
              refine lv_if_eq (tgt := 150) hx hb dX1_colon_143 (by decide) (fun c_143 => ?_) (fun c_143 => absurd c_143 (not_not_intro (by decide)))
              refine lv_iconst (v := (-1)) hx hb dX1_colon_150 (by decide) ?_
              exact pu_iret hx hb hr hlocks (by rw [sp_colon, hw_k]; first | exact md_co_2 rfl hinv (fun z => c_87 (by rw [z]; rfl)) c_94 | exact md_co_no rfl hinv c_94 (fun z => absurd c_98 (nI_nle z.1 (by omega))) | exact md_co_no rfl hinv c_94 (fun z => absurd c_110 (by omega)) | exact md_co_ns rfl hinv c_94 c_110 hns) dX1_colon_151
            · refine lv_iload_n hx hb dX1_colon_97 rfl (lv_at hl 3 rfl) ?_
              refine lv_if_le (tgt := 138) hx hb dX1_colon_98 (by decide) (fun c_98 => ?_) (fun c_98 => ?_)
              · refine lv_iconst (v := nI 0) hx hb dX1_colon_138 (by decide) ?_
                refine lv_istore (lv' := [(4, .int (nI 0)), (0, .ref m0), (1, .int (nI k')), (2, .int (nI mn)), (3, .int (nI la))]) hx hb dX1_colon_139 hl (by decide) rfl (fun ls hl => ?_)
                refine lv_iload hx hb dX1_colon_141 (lv_at hl 0 rfl) ?_
                refine lv_if_eq (tgt := 150) hx hb dX1_colon_143 (by decide) (fun c_143 => ?_) (fun c_143 => absurd c_143 (not_not_intro (by decide)))
                refine lv_iconst (v := (-1)) hx hb dX1_colon_150 (by decide) ?_
                exact pu_iret hx hb hr hlocks (by rw [sp_colon, hw_k]; first | exact md_co_2 rfl hinv (fun z => c_87 (by rw [z]; rfl)) c_94 | exact md_co_no rfl hinv c_94 (fun z => absurd c_98 (nI_nle z.1 (by omega))) | exact md_co_no rfl hinv c_94 (fun z => absurd c_110 (by omega)) | exact md_co_ns rfl hinv c_94 c_110 hns) dX1_colon_151
              · refine lv_iload_n hx hb dX1_colon_101 rfl (lv_at hl 3 rfl) ?_
                refine lv_iconst (v := nI 1) hx hb dX1_colon_102 (by decide) ?_
                refine rn_iadd hx hb dX1_colon_103 ?_
                refine lv_aload_n hx hb dX1_colon_104 rfl (lv_at hl 0 rfl) ?_
                refine va_get (D := D) (ci := 1) (v := .ref ml) (C := RX1) (T := TX1) (N := 9) hx hb hts hin1 hown hK hP 0 rfl rfl 3 (by decide) f16 (fun _ h9 => h9) rfl dX1_colon_105 ?_
                refine lv_iload_n hx hb dX1_colon_108 rfl (lv_at hl 1 rfl) ?_
                refine rn_ald (v := nI (S (k' + 1) - S k')) hx hb hK hP 3 0 rfl hty (by have := hM.2.2.2.2.2; omega) (by decide) ((hM.2.1 k' (by omega) (by omega)).2) dX1_colon_109 ?_
                refine rn_icmp_ge (tgt := 138) hx hb (by omega) (by omega) dX1_colon_110 (by decide) (fun c_110 => ?_) (fun c_110 => ?_)
                · refine lv_iconst (v := nI 0) hx hb dX1_colon_138 (by decide) ?_
                  refine lv_istore (lv' := [(4, .int (nI 0)), (0, .ref m0), (1, .int (nI k')), (2, .int (nI mn)), (3, .int (nI la))]) hx hb dX1_colon_139 hl (by decide) rfl (fun ls hl => ?_)
                  refine lv_iload hx hb dX1_colon_141 (lv_at hl 0 rfl) ?_
                  refine lv_if_eq (tgt := 150) hx hb dX1_colon_143 (by decide) (fun c_143 => ?_) (fun c_143 => absurd c_143 (not_not_intro (by decide)))
                  refine lv_iconst (v := (-1)) hx hb dX1_colon_150 (by decide) ?_
                  exact pu_iret hx hb hr hlocks (by rw [sp_colon, hw_k]; first | exact md_co_2 rfl hinv (fun z => c_87 (by rw [z]; rfl)) c_94 | exact md_co_no rfl hinv c_94 (fun z => absurd c_98 (nI_nle z.1 (by omega))) | exact md_co_no rfl hinv c_94 (fun z => absurd c_110 (by omega)) | exact md_co_ns rfl hinv c_94 c_110 hns) dX1_colon_151
                · refine lv_aload_n hx hb dX1_colon_113 rfl (lv_at hl 0 rfl) ?_
                  refine va_get (D := D) (ci := 1) (v := .ref ms) (C := RX1) (T := TX1) (N := 9) hx hb hts hin1 hown hK hP 0 rfl rfl 0 (by decide) f7 (fun _ h9 => h9) rfl dX1_colon_114 ?_
                  refine lv_aload_n hx hb dX1_colon_117 rfl (lv_at hl 0 rfl) ?_
                  refine va_get (D := D) (ci := 1) (v := .ref mt) (C := RX1) (T := TX1) (N := 9) hx hb hts hin1 hown hK hP 0 rfl rfl 2 (by decide) f13 (fun _ h9 => h9) rfl dX1_colon_118 ?_
                  refine lv_iload_n hx hb dX1_colon_121 rfl (lv_at hl 1 rfl) ?_
                  refine rn_ald (v := nI (S k')) hx hb hK hP 2 0 rfl hty (by have := hM.2.2.2.2.2; omega) (by decide) ((hM.2.1 k' (by omega) (by omega)).1) dX1_colon_122 ?_
                  refine lv_iload_n hx hb dX1_colon_123 rfl (lv_at hl 3 rfl) ?_
                  refine rn_iadd hx hb dX1_colon_124 ?_
                  refine lv_iconst (v := nI 1) hx hb dX1_colon_125 (by decide) ?_
                  refine rn_iadd hx hb dX1_colon_126 ?_
                  refine rn_ald (v := (sg (S k' + la + 1))) hx hb hK hP 1 0 rfl hty (by omega) (by decide) (rfl) dX1_colon_127 ?_
                  refine vp_callSi (W.runS (As := [.int (sg (S k' + la + 1))]) (rest := []) ⟨hx, hb, hml, hown, hts⟩ (km_isStart l D (md_W cI m0 ms mt ml md mk wr sg ta le dr so us rc n sn) (sg (S k' + la + 1))) (va_cwS 1 hts gX1_colon_X1_isStart rfl rfl rfl (by decide +kernel) ⟨Nat.le_of_ble_eq_true rfl, Nat.le_of_ble_eq_true rfl⟩) (pu_preS hK hP) rfl rfl hl.1 rfl (lv_room (Nat.le_of_ble_eq_true rfl)) dX1_colon_128 ⟨Nat.zero_le _, Nat.zero_le _⟩) (fun r128 er128 => ?_)
                  rcases er128 with ⟨er128, hns⟩ | ⟨er128, hns⟩
                  · subst er128
                    refine lv_if_eq (tgt := 138) hx hb dX1_colon_131 (by decide) (fun c_131 => absurd c_131 (by decide)) (fun c_131 => ?_)
                    refine lv_iconst (v := nI 1) hx hb dX1_colon_134 (by decide) ?_
                    refine lv_goto (tgt := 139) hx hb dX1_colon_135 (by decide) ?_
                    refine lv_istore (lv' := [(4, .int (nI 1)), (0, .ref m0), (1, .int (nI k')), (2, .int (nI mn)), (3, .int (nI la))]) hx hb dX1_colon_139 hl (by decide) rfl (fun ls hl => ?_)
                    refine lv_iload hx hb dX1_colon_141 (lv_at hl 0 rfl) ?_
                    refine lv_if_eq (tgt := 150) hx hb dX1_colon_143 (by decide) (fun c_143 => absurd c_143 (by decide)) (fun c_143 => ?_)
                    refine lv_iload_n hx hb dX1_colon_146 rfl (lv_at hl 4 rfl) ?_
                    refine lv_goto (tgt := 151) hx hb dX1_colon_147 (by decide) ?_
                    exact pu_iret hx hb hr hlocks (by rw [sp_colon, hw_k]; exact md_co_yes rfl hinv c_94 (by rcases Nat.eq_zero_or_pos la with z | z <;> first | exact z | (subst z; exact absurd (show nI 0 ≤ 0 by decide) c_98)) c_110 hns) dX1_colon_151
                  · subst er128
                    refine lv_if_eq (tgt := 138) hx hb dX1_colon_131 (by decide) (fun c_131 => ?_) (fun c_131 => absurd c_131 (not_not_intro (by decide)))
                    refine lv_iconst (v := nI 0) hx hb dX1_colon_138 (by decide) ?_
                    refine lv_istore (lv' := [(4, .int (nI 0)), (0, .ref m0), (1, .int (nI k')), (2, .int (nI mn)), (3, .int (nI la))]) hx hb dX1_colon_139 hl (by decide) rfl (fun ls hl => ?_)
                    refine lv_iload hx hb dX1_colon_141 (lv_at hl 0 rfl) ?_
                    refine lv_if_eq (tgt := 150) hx hb dX1_colon_143 (by decide) (fun c_143 => ?_) (fun c_143 => absurd c_143 (not_not_intro (by decide)))
                    refine lv_iconst (v := (-1)) hx hb dX1_colon_150 (by decide) ?_
                    exact pu_iret hx hb hr hlocks (by rw [sp_colon, hw_k]; first | exact md_co_2 rfl hinv (fun z => c_87 (by rw [z]; rfl)) c_94 | exact md_co_no rfl hinv c_94 (fun z => absurd c_98 (nI_nle z.1 (by omega))) | exact md_co_no rfl hinv c_94 (fun z => absurd c_110 (by omega)) | exact md_co_ns rfl hinv c_94 c_110 hns) dX1_colon_151
          · refine lv_iconst (v := nI 0) hx hb dX1_colon_90 (by decide) ?_
            exact pu_iret hx hb hr hlocks (by rw [sp_colon, hw_k]; exact md_co_0 rfl hinv (sp_nI0 (by omega) c_87)) dX1_colon_91
        · refine lv_aload_n hx hb dX1_colon_29 rfl (lv_at hl 0 rfl) ?_
          refine va_get (D := D) (ci := 1) (v := .ref ms) (C := RX1) (T := TX1) (N := 9) hx hb hts hin1 hown hK hP 0 rfl rfl 0 (by decide) f7 (fun _ h9 => h9) rfl dX1_colon_30 ?_
          refine lv_aload_n hx hb dX1_colon_33 rfl (lv_at hl 0 rfl) ?_
          refine va_get (D := D) (ci := 1) (v := .ref mt) (C := RX1) (T := TX1) (N := 9) hx hb hts hin1 hown hK hP 0 rfl rfl 2 (by decide) f13 (fun _ h9 => h9) rfl dX1_colon_34 ?_
          refine lv_iload_n hx hb dX1_colon_37 rfl (lv_at hl 1 rfl) ?_
          refine rn_ald (v := nI (S k')) hx hb hK hP 2 0 rfl hty (by have := hM.2.2.2.2.2; omega) (by decide) ((hM.2.1 k' (by omega) (by omega)).1) dX1_colon_38 ?_
          refine lv_iload hx hb dX1_colon_39 (lv_at hl 4 rfl) ?_
          refine rn_iadd hx hb dX1_colon_41 ?_
          refine rn_ald (v := (sg (S k' + i))) hx hb hK hP 1 0 rfl hty (by omega) (by decide) (rfl) dX1_colon_42 ?_
          refine lv_bipush (v := nI 58) hx hb dX1_colon_43 (by decide) ?_
          refine lv_icmp_ne (tgt := 52) hx hb dX1_colon_45 (by decide) (fun c_45 => ?_) (fun c_45 => ?_)
          · refine lv_iconst (v := nI 0) hx hb dX1_colon_52 (by decide) ?_
            refine lv_istore (lv' := [(5, .int (nI 0)), (0, .ref m0), (1, .int (nI k')), (2, .int (nI mn)), (3, .int (nI la)), (4, .int (nI i))]) hx hb dX1_colon_53 hl (by decide) rfl (fun ls hl => ?_)
            refine lv_iload hx hb dX1_colon_55 (lv_at hl 0 rfl) ?_
            refine lv_if_eq (tgt := 66) hx hb dX1_colon_57 (by decide) (fun c_57 => ?_) (fun c_57 => absurd c_57 (not_not_intro (by decide)))
            refine lv_iload_n hx hb dX1_colon_66 rfl (lv_at hl 3 rfl) ?_
            refine lv_istore_n (lv' := [(2, .int (nI mn)), (5, .int (nI 0)), (0, .ref m0), (1, .int (nI k')), (3, .int (nI la)), (4, .int (nI i))]) hx hb dX1_colon_67 rfl hl (by decide) rfl (fun ls hl => ?_)
            refine lv_iload hx hb dX1_colon_68 (lv_at hl 1 rfl) ?_
            refine lv_if_eq (tgt := 78) hx hb dX1_colon_70 (by decide) (fun c_70 => ?_) (fun c_70 => absurd c_70 (not_not_intro (by decide)))
            refine lv_iload_n hx hb dX1_colon_78 rfl (lv_at hl 4 rfl) ?_
            refine lv_istore_n (lv' := [(3, .int (nI la)), (2, .int (nI mn)), (5, .int (nI 0)), (0, .ref m0), (1, .int (nI k')), (4, .int (nI i))]) hx hb dX1_colon_79 rfl hl (by decide) rfl (fun ls hl => ?_)
            refine rn_iinc (n := 1) (lv' := [(4, .int (nI (i + 1))), (3, .int (nI la)), (2, .int (nI mn)), (5, .int (nI 0)), (0, .ref m0), (1, .int (nI k'))]) hx hb dX1_colon_80 hl (k := 5) rfl (by decide) rfl (fun ls hl => ?_)
            refine lv_goto (tgt := 18) hx hb dX1_colon_83 (by decide) ?_
            exact ih (i + 1) mn la ls (by omega) (by omega) (by omega) (by omega) (md_ci_no hinv c_45) (lv_sub hl [4, 5, 2, 1, 0] rfl)
          · refine lv_iconst (v := nI 1) hx hb dX1_colon_48 (by decide) ?_
            refine lv_goto (tgt := 53) hx hb dX1_colon_49 (by decide) ?_
            refine lv_istore (lv' := [(5, .int (nI 1)), (0, .ref m0), (1, .int (nI k')), (2, .int (nI mn)), (3, .int (nI la)), (4, .int (nI i))]) hx hb dX1_colon_53 hl (by decide) rfl (fun ls hl => ?_)
            refine lv_iload hx hb dX1_colon_55 (lv_at hl 0 rfl) ?_
            refine lv_if_eq (tgt := 66) hx hb dX1_colon_57 (by decide) (fun c_57 => absurd c_57 (by decide)) (fun c_57 => ?_)
            refine lv_iload_n hx hb dX1_colon_60 rfl (lv_at hl 3 rfl) ?_
            refine lv_iconst (v := nI 1) hx hb dX1_colon_61 (by decide) ?_
            refine rn_iadd hx hb dX1_colon_62 ?_
            refine lv_goto (tgt := 67) hx hb dX1_colon_63 (by decide) ?_
            refine lv_istore_n (lv' := [(2, .int (nI (mn + 1))), (5, .int (nI 1)), (0, .ref m0), (1, .int (nI k')), (3, .int (nI la)), (4, .int (nI i))]) hx hb dX1_colon_67 rfl hl (by decide) rfl (fun ls hl => ?_)
            refine lv_iload hx hb dX1_colon_68 (lv_at hl 1 rfl) ?_
            refine lv_if_eq (tgt := 78) hx hb dX1_colon_70 (by decide) (fun c_70 => absurd c_70 (by decide)) (fun c_70 => ?_)
            refine lv_iload hx hb dX1_colon_73 (lv_at hl 5 rfl) ?_
            refine lv_goto (tgt := 79) hx hb dX1_colon_75 (by decide) ?_
            refine lv_istore_n (lv' := [(3, .int (nI i)), (2, .int (nI (mn + 1))), (5, .int (nI 1)), (0, .ref m0), (1, .int (nI k')), (4, .int (nI i))]) hx hb dX1_colon_79 rfl hl (by decide) rfl (fun ls hl => ?_)
            refine rn_iinc (n := 1) (lv' := [(4, .int (nI (i + 1))), (3, .int (nI i)), (2, .int (nI (mn + 1))), (5, .int (nI 1)), (0, .ref m0), (1, .int (nI k'))]) hx hb dX1_colon_80 hl (k := 5) rfl (by decide) rfl (fun ls hl => ?_)
            refine lv_goto (tgt := 18) hx hb dX1_colon_83 (by decide) ?_
            exact ih (i + 1) (mn + 1) i ls (by omega) (by omega) (by omega) (by omega) (md_ci_yes hinv c_45) (lv_sub hl [4, 5, 2, 1, 0] rfl)
    exact loop ((S (k' + 1) - S k') + 1) 0 0 0 ls (by omega) (Nat.zero_le _) (Nat.le_refl _) (Nat.le_refl _) (Or.inl ⟨rfl, rfl, fun z hz => absurd hz (Nat.not_lt_zero z)⟩) (lv_sub hl [3, 4, 2, 1, 0] rfl)
  · subst er2
    have hw_k := cn_row_no (ch := sg) (md_R hM) hk_k
    refine lv_if_ne (tgt := 11) hx hb dX1_colon_5 (by decide) (fun c_5 => absurd c_5 (not_not_intro (by decide))) (fun c_5 => ?_)
    refine lv_bipush (v := (-2)) hx hb dX1_colon_8 (by decide) ?_
    exact pu_iret hx hb hr hlocks (by rw [sp_colon, hw_k]) dX1_colon_10
set_option maxHeartbeats 4000000 in
set_option maxRecDepth 100000 in
/-- the reference's constructor: five arrays are made -/
theorem km_init (l : Launch) (D : va_G) {tys : List (ClassId × FieldType)} {cI : ClassId} (hty : tys[0]? = some (cI, .int)) (m0 : Nat) (wr : va_W) (A : Nat → Prop) : Met l yX1_init wsX1_init ({ frames := 1, cells := 5, slots := 48002, locals := 20 }) (mk_Pc D vwCl ((m0, .inr (1, [.null, .int 0, .null, .null, .int 0, .null, .int 0, .null, .int 0])) :: wr) tys A [.ref m0]) (va_Qv (fun w => ∃ ms mt ml md mk : Nat, w = (m0, .inr (1, [.ref ms, .int 0, .ref mt, .ref ml, .int 0, .ref md, .int 0, .ref mk, .int 0])) :: (((((wr ++ [(ms, .inl (cI, 20000, .inl (fun _ => 0)))]) ++ [(mt, .inl (cI, 3001, .inl (fun _ => 0)))]) ++ [(ml, .inl (cI, 3001, .inl (fun _ => 0)))]) ++ [(md, .inl (cI, 2000, .inl (fun _ => 0)))]) ++ [(mk, .inl (cI, 20000, .inl (fun _ => 0)))])) (mu_B D vwCl tys A) A) 5 48002 A := by
  refine mk_of (cc := cX1_init) (maxL := 1) (own := RX1) (by decide) rfl rfl rfl (Nat.le_of_ble_eq_true rfl) ?_
  intro p e s m below meth c hx hb hr hts hown hlocks hin hml hP hK hD hS hA ls hl
  have hl : lv_has ls 1 [(0, .ref m0)] := hl
  have hin1 : ∀ w ∈ u_ws RX1 TX1 9, w ∈ wsX1_init := by decide +kernel
  have f7 := hts (.fieldLink RX1 7 "NameNumbersModel" "signs" "[I") (by decide +kernel)
  have f13 := hts (.fieldLink RX1 13 "NameNumbersModel" "starts" "[I") (by decide +kernel)
  have f16 := hts (.fieldLink RX1 16 "NameNumbersModel" "lengths" "[I") (by decide +kernel)
  have f19 := hts (.fieldLink RX1 19 "NameNumbersModel" "draft" "[I") (by decide +kernel)
  have f22 := hts (.fieldLink RX1 22 "NameNumbersModel" "sought" "[I") (by decide +kernel)
  have harr := hts (.arrayClass .int) (by decide +kernel)
  refine lv_aload_n hx hb dX1_init_0 rfl (lv_at hl 0 rfl) ?_
  refine W.objInit hx hb hown (hts (.methodLink RX1 1 objectInit) (by decide +kernel)) (hts (.instanceMethod objectInit) (by decide +kernel)) (hts _ (List.mem_of_getElem? (i := 3) rfl)) rfl (by rw [hml]; exact hl.1) rfl dX1_init_1 (Nat.le_of_ble_eq_true rfl) (Nat.le_of_ble_eq_true rfl) ?_
  refine W.eq (g2 := F0 m 4 ls []) rfl ?_
  refine lv_aload_n hx hb dX1_init_4 rfl (lv_at hl 0 rfl) ?_
  refine lv_sipush (v := nI 20000) hx hb dX1_init_5 (by decide) ?_
  refine rn_newa hx hb harr hK hty hP hD hS hA (by decide) (by decide) (Nat.le_of_ble_eq_true rfl) (Nat.le_of_ble_eq_true rfl) dX1_init_8 (fun ms H hP hD hS => ?_)
  have hP : va_P D vwCl ((m0, .inr (1, [.null, .int 0, .null, .null, .int 0, .null, .int 0, .null, .int 0])) :: (wr ++ [(ms, .inl (cI, 20000, .inl (fun _ => 0)))])) H := hP
  have hD : va_D A ((m0, .inr (1, [.null, .int 0, .null, .null, .int 0, .null, .int 0, .null, .int 0])) :: (wr ++ [(ms, .inl (cI, 20000, .inl (fun _ => 0)))])) := hD
  refine W.widen (k := 1) (n := 20000) (by omega) (by omega) ?_
  refine va_putF (D := D) (ci := 1) (v := .ref ms) (ty := .array .int) (C := RX1) (T := TX1) (N := 9) hx hb hts hin1 tyX1 tyX1_ok nmX1 hown hK hP hD hS 0 rfl rfl 0 (by decide) f7 (fun _ h9 => h9) rfl hin rfl (by decide +kernel) rfl rfl (Nat.le_of_ble_eq_true rfl) dX1_init_10 (fun H locs hP hD hS => ?_)
  have hP : va_P D vwCl ((m0, .inr (1, [.ref ms, .int 0, .null, .null, .int 0, .null, .int 0, .null, .int 0])) :: (wr ++ [(ms, .inl (cI, 20000, .inl (fun _ => 0)))])) H := hP
  have hD : va_D A ((m0, .inr (1, [.ref ms, .int 0, .null, .null, .int 0, .null, .int 0, .null, .int 0])) :: (wr ++ [(ms, .inl (cI, 20000, .inl (fun _ => 0)))])) := hD
  refine lv_aload_n hx hb dX1_init_13 rfl (lv_at hl 0 rfl) ?_
  refine lv_sipush (v := nI 3001) hx hb dX1_init_14 (by decide) ?_
  refine rn_newa hx hb harr hK hty hP hD hS hA (by decide) (by decide) (Nat.le_of_ble_eq_true rfl) (Nat.le_of_ble_eq_true rfl) dX1_init_17 (fun mt H hP hD hS => ?_)
  have hP : va_P D vwCl ((m0, .inr (1, [.ref ms, .int 0, .null, .null, .int 0, .null, .int 0, .null, .int 0])) :: ((wr ++ [(ms, .inl (cI, 20000, .inl (fun _ => 0)))]) ++ [(mt, .inl (cI, 3001, .inl (fun _ => 0)))])) H := hP
  have hD : va_D A ((m0, .inr (1, [.ref ms, .int 0, .null, .null, .int 0, .null, .int 0, .null, .int 0])) :: ((wr ++ [(ms, .inl (cI, 20000, .inl (fun _ => 0)))]) ++ [(mt, .inl (cI, 3001, .inl (fun _ => 0)))])) := hD
  refine W.widen (k := 2) (n := 23001) (by omega) (by omega) ?_
  refine va_putF (D := D) (ci := 1) (v := .ref mt) (ty := .array .int) (C := RX1) (T := TX1) (N := 9) hx hb hts hin1 tyX1 tyX1_ok nmX1 hown hK hP hD hS 0 rfl rfl 2 (by decide) f13 (fun _ h9 => h9) rfl hin rfl (by decide +kernel) rfl rfl (Nat.le_of_ble_eq_true rfl) dX1_init_19 (fun H locs hP hD hS => ?_)
  have hP : va_P D vwCl ((m0, .inr (1, [.ref ms, .int 0, .ref mt, .null, .int 0, .null, .int 0, .null, .int 0])) :: ((wr ++ [(ms, .inl (cI, 20000, .inl (fun _ => 0)))]) ++ [(mt, .inl (cI, 3001, .inl (fun _ => 0)))])) H := hP
  have hD : va_D A ((m0, .inr (1, [.ref ms, .int 0, .ref mt, .null, .int 0, .null, .int 0, .null, .int 0])) :: ((wr ++ [(ms, .inl (cI, 20000, .inl (fun _ => 0)))]) ++ [(mt, .inl (cI, 3001, .inl (fun _ => 0)))])) := hD
  refine lv_aload_n hx hb dX1_init_22 rfl (lv_at hl 0 rfl) ?_
  refine lv_sipush (v := nI 3001) hx hb dX1_init_23 (by decide) ?_
  refine rn_newa hx hb harr hK hty hP hD hS hA (by decide) (by decide) (Nat.le_of_ble_eq_true rfl) (Nat.le_of_ble_eq_true rfl) dX1_init_26 (fun ml H hP hD hS => ?_)
  have hP : va_P D vwCl ((m0, .inr (1, [.ref ms, .int 0, .ref mt, .null, .int 0, .null, .int 0, .null, .int 0])) :: (((wr ++ [(ms, .inl (cI, 20000, .inl (fun _ => 0)))]) ++ [(mt, .inl (cI, 3001, .inl (fun _ => 0)))]) ++ [(ml, .inl (cI, 3001, .inl (fun _ => 0)))])) H := hP
  have hD : va_D A ((m0, .inr (1, [.ref ms, .int 0, .ref mt, .null, .int 0, .null, .int 0, .null, .int 0])) :: (((wr ++ [(ms, .inl (cI, 20000, .inl (fun _ => 0)))]) ++ [(mt, .inl (cI, 3001, .inl (fun _ => 0)))]) ++ [(ml, .inl (cI, 3001, .inl (fun _ => 0)))])) := hD
  refine W.widen (k := 3) (n := 26002) (by omega) (by omega) ?_
  refine va_putF (D := D) (ci := 1) (v := .ref ml) (ty := .array .int) (C := RX1) (T := TX1) (N := 9) hx hb hts hin1 tyX1 tyX1_ok nmX1 hown hK hP hD hS 0 rfl rfl 3 (by decide) f16 (fun _ h9 => h9) rfl hin rfl (by decide +kernel) rfl rfl (Nat.le_of_ble_eq_true rfl) dX1_init_28 (fun H locs hP hD hS => ?_)
  have hP : va_P D vwCl ((m0, .inr (1, [.ref ms, .int 0, .ref mt, .ref ml, .int 0, .null, .int 0, .null, .int 0])) :: (((wr ++ [(ms, .inl (cI, 20000, .inl (fun _ => 0)))]) ++ [(mt, .inl (cI, 3001, .inl (fun _ => 0)))]) ++ [(ml, .inl (cI, 3001, .inl (fun _ => 0)))])) H := hP
  have hD : va_D A ((m0, .inr (1, [.ref ms, .int 0, .ref mt, .ref ml, .int 0, .null, .int 0, .null, .int 0])) :: (((wr ++ [(ms, .inl (cI, 20000, .inl (fun _ => 0)))]) ++ [(mt, .inl (cI, 3001, .inl (fun _ => 0)))]) ++ [(ml, .inl (cI, 3001, .inl (fun _ => 0)))])) := hD
  refine lv_aload_n hx hb dX1_init_31 rfl (lv_at hl 0 rfl) ?_
  refine lv_sipush (v := nI 2000) hx hb dX1_init_32 (by decide) ?_
  refine rn_newa hx hb harr hK hty hP hD hS hA (by decide) (by decide) (Nat.le_of_ble_eq_true rfl) (Nat.le_of_ble_eq_true rfl) dX1_init_35 (fun md H hP hD hS => ?_)
  have hP : va_P D vwCl ((m0, .inr (1, [.ref ms, .int 0, .ref mt, .ref ml, .int 0, .null, .int 0, .null, .int 0])) :: ((((wr ++ [(ms, .inl (cI, 20000, .inl (fun _ => 0)))]) ++ [(mt, .inl (cI, 3001, .inl (fun _ => 0)))]) ++ [(ml, .inl (cI, 3001, .inl (fun _ => 0)))]) ++ [(md, .inl (cI, 2000, .inl (fun _ => 0)))])) H := hP
  have hD : va_D A ((m0, .inr (1, [.ref ms, .int 0, .ref mt, .ref ml, .int 0, .null, .int 0, .null, .int 0])) :: ((((wr ++ [(ms, .inl (cI, 20000, .inl (fun _ => 0)))]) ++ [(mt, .inl (cI, 3001, .inl (fun _ => 0)))]) ++ [(ml, .inl (cI, 3001, .inl (fun _ => 0)))]) ++ [(md, .inl (cI, 2000, .inl (fun _ => 0)))])) := hD
  refine W.widen (k := 4) (n := 28002) (by omega) (by omega) ?_
  refine va_putF (D := D) (ci := 1) (v := .ref md) (ty := .array .int) (C := RX1) (T := TX1) (N := 9) hx hb hts hin1 tyX1 tyX1_ok nmX1 hown hK hP hD hS 0 rfl rfl 5 (by decide) f19 (fun _ h9 => h9) rfl hin rfl (by decide +kernel) rfl rfl (Nat.le_of_ble_eq_true rfl) dX1_init_37 (fun H locs hP hD hS => ?_)
  have hP : va_P D vwCl ((m0, .inr (1, [.ref ms, .int 0, .ref mt, .ref ml, .int 0, .ref md, .int 0, .null, .int 0])) :: ((((wr ++ [(ms, .inl (cI, 20000, .inl (fun _ => 0)))]) ++ [(mt, .inl (cI, 3001, .inl (fun _ => 0)))]) ++ [(ml, .inl (cI, 3001, .inl (fun _ => 0)))]) ++ [(md, .inl (cI, 2000, .inl (fun _ => 0)))])) H := hP
  have hD : va_D A ((m0, .inr (1, [.ref ms, .int 0, .ref mt, .ref ml, .int 0, .ref md, .int 0, .null, .int 0])) :: ((((wr ++ [(ms, .inl (cI, 20000, .inl (fun _ => 0)))]) ++ [(mt, .inl (cI, 3001, .inl (fun _ => 0)))]) ++ [(ml, .inl (cI, 3001, .inl (fun _ => 0)))]) ++ [(md, .inl (cI, 2000, .inl (fun _ => 0)))])) := hD
  refine lv_aload_n hx hb dX1_init_40 rfl (lv_at hl 0 rfl) ?_
  refine lv_sipush (v := nI 20000) hx hb dX1_init_41 (by decide) ?_
  refine rn_newa hx hb harr hK hty hP hD hS hA (by decide) (by decide) (Nat.le_of_ble_eq_true rfl) (Nat.le_of_ble_eq_true rfl) dX1_init_44 (fun mk H hP hD hS => ?_)
  have hP : va_P D vwCl ((m0, .inr (1, [.ref ms, .int 0, .ref mt, .ref ml, .int 0, .ref md, .int 0, .null, .int 0])) :: (((((wr ++ [(ms, .inl (cI, 20000, .inl (fun _ => 0)))]) ++ [(mt, .inl (cI, 3001, .inl (fun _ => 0)))]) ++ [(ml, .inl (cI, 3001, .inl (fun _ => 0)))]) ++ [(md, .inl (cI, 2000, .inl (fun _ => 0)))]) ++ [(mk, .inl (cI, 20000, .inl (fun _ => 0)))])) H := hP
  have hD : va_D A ((m0, .inr (1, [.ref ms, .int 0, .ref mt, .ref ml, .int 0, .ref md, .int 0, .null, .int 0])) :: (((((wr ++ [(ms, .inl (cI, 20000, .inl (fun _ => 0)))]) ++ [(mt, .inl (cI, 3001, .inl (fun _ => 0)))]) ++ [(ml, .inl (cI, 3001, .inl (fun _ => 0)))]) ++ [(md, .inl (cI, 2000, .inl (fun _ => 0)))]) ++ [(mk, .inl (cI, 20000, .inl (fun _ => 0)))])) := hD
  refine W.widen (k := 5) (n := 48002) (by omega) (by omega) ?_
  refine va_putF (D := D) (ci := 1) (v := .ref mk) (ty := .array .int) (C := RX1) (T := TX1) (N := 9) hx hb hts hin1 tyX1 tyX1_ok nmX1 hown hK hP hD hS 0 rfl rfl 7 (by decide) f22 (fun _ h9 => h9) rfl hin rfl (by decide +kernel) rfl rfl (Nat.le_of_ble_eq_true rfl) dX1_init_46 (fun H locs hP hD hS => ?_)
  have hP : va_P D vwCl ((m0, .inr (1, [.ref ms, .int 0, .ref mt, .ref ml, .int 0, .ref md, .int 0, .ref mk, .int 0])) :: (((((wr ++ [(ms, .inl (cI, 20000, .inl (fun _ => 0)))]) ++ [(mt, .inl (cI, 3001, .inl (fun _ => 0)))]) ++ [(ml, .inl (cI, 3001, .inl (fun _ => 0)))]) ++ [(md, .inl (cI, 2000, .inl (fun _ => 0)))]) ++ [(mk, .inl (cI, 20000, .inl (fun _ => 0)))])) H := hP
  have hD : va_D A ((m0, .inr (1, [.ref ms, .int 0, .ref mt, .ref ml, .int 0, .ref md, .int 0, .ref mk, .int 0])) :: (((((wr ++ [(ms, .inl (cI, 20000, .inl (fun _ => 0)))]) ++ [(mt, .inl (cI, 3001, .inl (fun _ => 0)))]) ++ [(ml, .inl (cI, 3001, .inl (fun _ => 0)))]) ++ [(md, .inl (cI, 2000, .inl (fun _ => 0)))]) ++ [(mk, .inl (cI, 20000, .inl (fun _ => 0)))])) := hD
  exact mk_vret hx hb hr hlocks hP hK hD hS ⟨ms, mt, ml, md, mk, rfl⟩ dX1_init_49
