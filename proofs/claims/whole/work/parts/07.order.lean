set_option maxHeartbeats 4000000 in
set_option maxRecDepth 100000 in
/-- order -/
theorem kx_order (l : Launch) (D : va_G) {tys : List (ClassId × FieldType)} {cI : ClassId} (hty : tys[0]? = some (cI, .int)) (h0 hd hc hs : Nat) (wr : va_W) (dr ch st : Nat → Int32) (n rc : Nat) (S : Nat → Nat) (hR : cn_S st rc S) (u v : Nat) (hu1 : 1 ≤ u) (hu2 : u ≤ rc) (hv1 : 1 ≤ v) (hv2 : v ≤ rc) : Met l yX0_order wsX0_order ({ frames := 1, cells := 0, slots := 0, locals := 30 }) (pu_Pc D vwCl (cn_W cI h0 hd hc hs wr dr ch st n rc) tys [.ref h0, .int (nI u), .int (nI v)]) (vp_Si (fun r => r = sp_cmp (cn_row ch S u) (cn_row ch S v))) 0 0 (fun _ => False) := by
  refine pu_of (cc := cX0_order) (maxL := 7) (ret := some .int) (own := RX0) (by decide) rfl rfl (Nat.le_of_ble_eq_true rfl) ?_
  intro p e s m below meth c hx hb hr hts hown hlocks hml hP hK ls hl
  have hl : lv_has ls 7 [(0, .ref h0), (1, .int (nI u)), (2, .int (nI v))] := hl
  have hin0 : ∀ w ∈ u_ws RX0 TX0 5, w ∈ wsX0_order := by decide +kernel
  have f17 := hts (.fieldLink RX0 17 "NameNumbers" "characters" "[I") (by decide +kernel)
  have f20 := hts (.fieldLink RX0 20 "NameNumbers" "starts" "[I") (by decide +kernel)
  have hlu := hR.2.2.1 u hu1 hu2
  have hlv := hR.2.2.1 v hv1 hv2
  have htu := cn_top hR (k := u + 1) (by omega) (by omega)
  have htv := cn_top hR (k := v + 1) (by omega) (by omega)
  have loop : ∀ (j : Nat) (i : Nat) (ls : Array Slot), min (S (u + 1) - S u) (S (v + 1) - S v) + 1 ≤ i + j → i ≤ min (S (u + 1) - S u) (S (v + 1) - S v) → (∀ x, x < i → ch (S u + x) = ch (S v + x)) → lv_has ls 7 [(0, .ref h0), (1, .int (nI u)), (2, .int (nI v)), (3, .int (nI (min (S (u + 1) - S u) (S (v + 1) - S v)))), (4, .int (nI i))] → W p l e { frames := 1, cells := 0, slots := 0, locals := 30 } s m [.ref h0, .int (nI u), .int (nI v)].toArray below meth c s.heap [] 0 0 (MQ below (vp_Si (fun r => r = sp_cmp (cn_row ch S u) (cn_row ch S v))) [.ref h0, .int (nI u), .int (nI v)].toArray s 0 0 (fun _ => False)) (F0 m 17 ls []) := by
    intro j
    induction j with
    | zero => intro i ls hj hi hinv hl; exfalso; omega
    | succ j ih =>
      intro i ls hj hi hinv hl
      refine lv_iload hx hb dX0_order_17 (lv_at hl 4 rfl) ?_
      refine lv_iload_n hx hb dX0_order_19 rfl (lv_at hl 3 rfl) ?_
      refine rn_icmp_ge (tgt := 81) hx hb (by omega) (by omega) dX0_order_20 (by decide) (fun c_20 => ?_) (fun c_20 => ?_)
      · refine lv_aload_n hx hb dX0_order_81 rfl (lv_at hl 0 rfl) ?_
        refine lv_iload_n hx hb dX0_order_82 rfl (lv_at hl 1 rfl) ?_
        refine vp_callSi (W.runV (As := [.int (nI u)]) (rest := []) ⟨hx, hb, hml, hown, hts⟩ (kx_lengthOf l D hty h0 hd hc hs wr dr ch st n rc S hR u (by omega) (by omega)) (cwV 1 hts gX0_order_X0_lengthOf rfl rfl rfl (by decide +kernel) ⟨Nat.le_of_ble_eq_true rfl, Nat.le_of_ble_eq_true rfl⟩) (pu_preV hK hP 0 rfl rfl) rfl rfl hl.1 rfl (lv_room (Nat.le_of_ble_eq_true rfl)) dX0_order_83 ⟨Nat.zero_le _, Nat.zero_le _⟩) (fun r83 er83 => ?_)
        subst er83
        refine lv_aload_n hx hb dX0_order_86 rfl (lv_at hl 0 rfl) ?_
        refine lv_iload_n hx hb dX0_order_87 rfl (lv_at hl 2 rfl) ?_
        refine vp_callSi (W.runV (As := [.int (nI v)]) (rest := [.int (nI (S (u + 1) - S u))]) ⟨hx, hb, hml, hown, hts⟩ (kx_lengthOf l D hty h0 hd hc hs wr dr ch st n rc S hR v (by omega) (by omega)) (cwV 1 hts gX0_order_X0_lengthOf rfl rfl rfl (by decide +kernel) ⟨Nat.le_of_ble_eq_true rfl, Nat.le_of_ble_eq_true rfl⟩) (pu_preV hK hP 0 rfl rfl) rfl rfl hl.1 rfl (lv_room (Nat.le_of_ble_eq_true rfl)) dX0_order_88 ⟨Nat.zero_le _, Nat.zero_le _⟩) (fun r88 er88 => ?_)
        subst er88
        refine rn_icmp_ne (tgt := 96) hx hb (by omega) (by omega) dX0_order_91 (by decide) (fun c_91 => ?_) (fun c_91 => ?_)
        · refine lv_aload_n hx hb dX0_order_96 rfl (lv_at hl 0 rfl) ?_
          refine lv_iload_n hx hb dX0_order_97 rfl (lv_at hl 1 rfl) ?_
          refine vp_callSi (W.runV (As := [.int (nI u)]) (rest := []) ⟨hx, hb, hml, hown, hts⟩ (kx_lengthOf l D hty h0 hd hc hs wr dr ch st n rc S hR u (by omega) (by omega)) (cwV 1 hts gX0_order_X0_lengthOf rfl rfl rfl (by decide +kernel) ⟨Nat.le_of_ble_eq_true rfl, Nat.le_of_ble_eq_true rfl⟩) (pu_preV hK hP 0 rfl rfl) rfl rfl hl.1 rfl (lv_room (Nat.le_of_ble_eq_true rfl)) dX0_order_98 ⟨Nat.zero_le _, Nat.zero_le _⟩) (fun r98 er98 => ?_)
          subst er98
          refine lv_aload_n hx hb dX0_order_101 rfl (lv_at hl 0 rfl) ?_
          refine lv_iload_n hx hb dX0_order_102 rfl (lv_at hl 2 rfl) ?_
          refine vp_callSi (W.runV (As := [.int (nI v)]) (rest := [.int (nI (S (u + 1) - S u))]) ⟨hx, hb, hml, hown, hts⟩ (kx_lengthOf l D hty h0 hd hc hs wr dr ch st n rc S hR v (by omega) (by omega)) (cwV 1 hts gX0_order_X0_lengthOf rfl rfl rfl (by decide +kernel) ⟨Nat.le_of_ble_eq_true rfl, Nat.le_of_ble_eq_true rfl⟩) (pu_preV hK hP 0 rfl rfl) rfl rfl hl.1 rfl (lv_room (Nat.le_of_ble_eq_true rfl)) dX0_order_103 ⟨Nat.zero_le _, Nat.zero_le _⟩) (fun r103 er103 => ?_)
          subst er103
          refine rn_icmp_ge (tgt := 113) hx hb (by omega) (by omega) dX0_order_106 (by decide) (fun c_106 => ?_) (fun c_106 => ?_)
          · refine lv_iconst (v := nI 1) hx hb dX0_order_113 (by decide) ?_
            exact pu_iret hx hb hr hlocks (by rw [cn_row, cn_row, cn_cmp_end _ _ _ _ (fun x h1 h2 => hinv x (by omega)), if_neg c_91, if_neg (by omega)]; rfl) dX0_order_114
          · refine lv_iconst (v := (-1)) hx hb dX0_order_109 (by decide) ?_
            refine lv_goto (tgt := 114) hx hb dX0_order_110 (by decide) ?_
            exact pu_iret hx hb hr hlocks (by rw [cn_row, cn_row, cn_cmp_end _ _ _ _ (fun x h1 h2 => hinv x (by omega)), if_neg c_91, if_pos (by omega)]) dX0_order_114
        · refine lv_iconst (v := nI 0) hx hb dX0_order_94 (by decide) ?_
          exact pu_iret hx hb hr hlocks (by rw [cn_row, cn_row, cn_cmp_end _ _ _ _ (fun x h1 h2 => hinv x (by omega)), if_pos c_91]; rfl) dX0_order_95
      · refine lv_aload_n hx hb dX0_order_23 rfl (lv_at hl 0 rfl) ?_
        refine va_get (D := D) (ci := 0) (v := .ref hc) (C := RX0) (T := TX0) (N := 5) hx hb hts hin0 hown hK hP 0 rfl rfl 2 (by decide) f17 (fun _ h9 => h9) rfl dX0_order_24 ?_
        refine lv_aload_n hx hb dX0_order_27 rfl (lv_at hl 0 rfl) ?_
        refine va_get (D := D) (ci := 0) (v := .ref hs) (C := RX0) (T := TX0) (N := 5) hx hb hts hin0 hown hK hP 0 rfl rfl 3 (by decide) f20 (fun _ h9 => h9) rfl dX0_order_28 ?_
        refine lv_iload_n hx hb dX0_order_31 rfl (lv_at hl 1 rfl) ?_
        refine rn_ald (v := nI (S u)) hx hb hK hP 3 0 rfl hty (by have := hR.2.2.2.2; omega) (by decide) (hR.2.1 _ (by omega) (by omega)) dX0_order_32 ?_
        refine lv_iload hx hb dX0_order_33 (lv_at hl 4 rfl) ?_
        refine rn_iadd hx hb dX0_order_35 ?_
        refine rn_ald (v := ch (S u + i)) hx hb hK hP 2 0 rfl hty (by omega) (by decide) (rfl) dX0_order_36 ?_
        refine lv_istore (lv' := [(5, .int (ch (S u + i))), (0, .ref h0), (1, .int (nI u)), (2, .int (nI v)), (3, .int (nI (min (S (u + 1) - S u) (S (v + 1) - S v)))), (4, .int (nI i))]) hx hb dX0_order_37 hl (by decide) rfl (fun ls hl => ?_)
        refine lv_aload_n hx hb dX0_order_39 rfl (lv_at hl 1 rfl) ?_
        refine va_get (D := D) (ci := 0) (v := .ref hc) (C := RX0) (T := TX0) (N := 5) hx hb hts hin0 hown hK hP 0 rfl rfl 2 (by decide) f17 (fun _ h9 => h9) rfl dX0_order_40 ?_
        refine lv_aload_n hx hb dX0_order_43 rfl (lv_at hl 1 rfl) ?_
        refine va_get (D := D) (ci := 0) (v := .ref hs) (C := RX0) (T := TX0) (N := 5) hx hb hts hin0 hown hK hP 0 rfl rfl 3 (by decide) f20 (fun _ h9 => h9) rfl dX0_order_44 ?_
        refine lv_iload_n hx hb dX0_order_47 rfl (lv_at hl 3 rfl) ?_
        refine rn_ald (v := nI (S v)) hx hb hK hP 3 0 rfl hty (by have := hR.2.2.2.2; omega) (by decide) (hR.2.1 _ (by omega) (by omega)) dX0_order_48 ?_
        refine lv_iload hx hb dX0_order_49 (lv_at hl 5 rfl) ?_
        refine rn_iadd hx hb dX0_order_51 ?_
        refine rn_ald (v := ch (S v + i)) hx hb hK hP 2 0 rfl hty (by omega) (by decide) (rfl) dX0_order_52 ?_
        refine lv_istore (lv' := [(6, .int (ch (S v + i))), (5, .int (ch (S u + i))), (0, .ref h0), (1, .int (nI u)), (2, .int (nI v)), (3, .int (nI (min (S (u + 1) - S u) (S (v + 1) - S v)))), (4, .int (nI i))]) hx hb dX0_order_53 hl (by decide) rfl (fun ls hl => ?_)
        refine lv_iload hx hb dX0_order_55 (lv_at hl 1 rfl) ?_
        refine lv_iload hx hb dX0_order_57 (lv_at hl 0 rfl) ?_
        refine lv_icmp_eq (tgt := 75) hx hb dX0_order_59 (by decide) (fun c_59 => ?_) (fun c_59 => ?_)
        · refine rn_iinc (n := 1) (lv' := [(4, .int (nI (i + 1))), (6, .int (ch (S v + i))), (5, .int (ch (S u + i))), (0, .ref h0), (1, .int (nI u)), (2, .int (nI v)), (3, .int (nI (min (S (u + 1) - S u) (S (v + 1) - S v))))]) hx hb dX0_order_75 hl (k := 6) rfl (by decide) rfl (fun ls hl => ?_)
          refine lv_goto (tgt := 17) hx hb dX0_order_78 (by decide) ?_
          exact ih (i + 1) ls (by omega) (by omega) (fun x h2 => (Nat.lt_or_ge x i).elim (fun q => hinv x q) (fun q => by rw [show x = i by omega]; exact c_59)) (lv_sub hl [3, 4, 5, 6, 0] rfl)
        · refine lv_iload hx hb dX0_order_62 (lv_at hl 1 rfl) ?_
          refine lv_iload hx hb dX0_order_64 (lv_at hl 0 rfl) ?_
          refine lv_icmp_ge (tgt := 73) hx hb dX0_order_66 (by decide) (fun c_66 => ?_) (fun c_66 => ?_)
          · refine lv_iconst (v := nI 1) hx hb dX0_order_73 (by decide) ?_
            exact pu_iret hx hb hr hlocks (by rw [cn_row, cn_row, cn_cmp_diff i _ _ _ _ hinv (by omega) (by omega) c_59, if_neg (by intro q; exact Int32.lt_irrefl (Int32.lt_of_lt_of_le q c_66))]; rfl) dX0_order_74
          · refine lv_iconst (v := (-1)) hx hb dX0_order_69 (by decide) ?_
            refine lv_goto (tgt := 74) hx hb dX0_order_70 (by decide) ?_
            exact pu_iret hx hb hr hlocks (by rw [cn_row, cn_row, cn_cmp_diff i _ _ _ _ hinv (by omega) (by omega) c_59, if_pos (Int32.not_le.mp c_66)]) dX0_order_74
  refine lv_aload_n hx hb dX0_order_0 rfl (lv_at hl 0 rfl) ?_
  refine lv_iload_n hx hb dX0_order_1 rfl (lv_at hl 1 rfl) ?_
  refine vp_callSi (W.runV (As := [.int (nI u)]) (rest := []) ⟨hx, hb, hml, hown, hts⟩ (kx_lengthOf l D hty h0 hd hc hs wr dr ch st n rc S hR u (by omega) (by omega)) (cwV 1 hts gX0_order_X0_lengthOf rfl rfl rfl (by decide +kernel) ⟨Nat.le_of_ble_eq_true rfl, Nat.le_of_ble_eq_true rfl⟩) (pu_preV hK hP 0 rfl rfl) rfl rfl hl.1 rfl (lv_room (Nat.le_of_ble_eq_true rfl)) dX0_order_2 ⟨Nat.zero_le _, Nat.zero_le _⟩) (fun r2 er2 => ?_)
  subst er2
  refine lv_aload_n hx hb dX0_order_5 rfl (lv_at hl 0 rfl) ?_
  refine lv_iload_n hx hb dX0_order_6 rfl (lv_at hl 2 rfl) ?_
  refine vp_callSi (W.runV (As := [.int (nI v)]) (rest := [.int (nI (S (u + 1) - S u))]) ⟨hx, hb, hml, hown, hts⟩ (kx_lengthOf l D hty h0 hd hc hs wr dr ch st n rc S hR v (by omega) (by omega)) (cwV 1 hts gX0_order_X0_lengthOf rfl rfl rfl (by decide +kernel) ⟨Nat.le_of_ble_eq_true rfl, Nat.le_of_ble_eq_true rfl⟩) (pu_preV hK hP 0 rfl rfl) rfl rfl hl.1 rfl (lv_room (Nat.le_of_ble_eq_true rfl)) dX0_order_7 ⟨Nat.zero_le _, Nat.zero_le _⟩) (fun r7 er7 => ?_)
  subst er7
  refine va_mmin hx hb (hml.trans hl.1.symm) hown (hts (.methodLink RX0 68 Lib.Math.min.name) (by decide +kernel)) (hts (.static Lib.Math.min.name) (by decide +kernel)) (hts (.initialized "java/lang/Math") (by decide +kernel)) (hts _ (List.mem_of_getElem? (i := 4) rfl)) (Nat.le_of_ble_eq_true rfl) (Nat.le_of_ble_eq_true rfl) (Nat.zero_le _) (Nat.zero_le _) dX0_order_10 ?_
  rw [sp_min (x := S (u + 1) - S u) (y := S (v + 1) - S v) (by omega) (by omega)]
  refine lv_istore_n (lv' := [(3, .int (nI (min (S (u + 1) - S u) (S (v + 1) - S v)))), (0, .ref h0), (1, .int (nI u)), (2, .int (nI v))]) hx hb dX0_order_13 rfl hl (by decide) rfl (fun ls hl => ?_)
  refine lv_iconst (v := nI 0) hx hb dX0_order_14 (by decide) ?_
  refine lv_istore (lv' := [(4, .int (nI 0)), (3, .int (nI (min (S (u + 1) - S u) (S (v + 1) - S v)))), (0, .ref h0), (1, .int (nI u)), (2, .int (nI v))]) hx hb dX0_order_15 hl (by decide) rfl (fun ls hl => ?_)
  exact loop (min (S (u + 1) - S u) (S (v + 1) - S v) + 1) 0 ls (by omega) (Nat.zero_le _) (fun x h => absurd h (Nat.not_lt_zero x)) (lv_sub hl [2, 3, 4, 1, 0] rfl)
set_option maxHeartbeats 4000000 in
set_option maxRecDepth 100000 in
/-- rows -/
theorem kx_rows (l : Launch) (D : va_G) {tys : List (ClassId × FieldType)} {cI : ClassId} (hty : tys[0]? = some (cI, .int)) (h0 hd hc hs : Nat) (wr : va_W) (dr ch st : Nat → Int32) (n rc : Nat)  : Met l yX0_rows wsX0_rows ({ frames := 0, cells := 0, slots := 0, locals := 0 }) (pu_Pc D vwCl (cn_W cI h0 hd hc hs wr dr ch st n rc) tys [.ref h0]) (vp_Si (fun r => r = nI rc)) 0 0 (fun _ => False) := by
  refine pu_of (cc := cX0_rows) (maxL := 1) (ret := some .int) (own := RX0) (by decide) rfl rfl (Nat.le_of_ble_eq_true rfl) ?_
  intro p e s m below meth c hx hb hr hts hown hlocks hml hP hK ls hl
  have hl : lv_has ls 1 [(0, .ref h0)] := hl
  have hin0 : ∀ w ∈ u_ws RX0 TX0 5, w ∈ wsX0_rows := by decide +kernel
  have f23 := hts (.fieldLink RX0 23 "NameNumbers" "rowCount" "I") (by decide +kernel)
  refine lv_aload_n hx hb dX0_rows_0 rfl (lv_at hl 0 rfl) ?_
  refine va_get (D := D) (ci := 0) (v := .int (nI rc)) (C := RX0) (T := TX0) (N := 5) hx hb hts hin0 hown hK hP 0 rfl rfl 4 (by decide) f23 (fun _ h9 => h9) rfl dX0_rows_1 ?_
  exact pu_iret hx hb hr hlocks (rfl) dX0_rows_4
set_option maxHeartbeats 4000000 in
set_option maxRecDepth 100000 in
/-- length -/
theorem kx_length (l : Launch) (D : va_G) {tys : List (ClassId × FieldType)} {cI : ClassId} (hty : tys[0]? = some (cI, .int)) (h0 hd hc hs : Nat) (wr : va_W) (dr ch st : Nat → Int32) (n rc : Nat) (S : Nat → Nat) (hR : cn_S st rc S) (k : Int32) : Met l yX0_length wsX0_length ({ frames := 1, cells := 0, slots := 0, locals := 21 }) (pu_Pc D vwCl (cn_W cI h0 hd hc hs wr dr ch st n rc) tys [.ref h0, .int k]) (vp_Si (fun r => r = sp_length (cn_rows ch S 1 rc) k)) 0 0 (fun _ => False) := by
  refine pu_of (cc := cX0_length) (maxL := 2) (ret := some .int) (own := RX0) (by decide) rfl rfl (Nat.le_of_ble_eq_true rfl) ?_
  intro p e s m below meth c hx hb hr hts hown hlocks hml hP hK ls hl
  have hl : lv_has ls 2 [(0, .ref h0), (1, .int k)] := hl
  refine lv_aload_n hx hb dX0_length_0 rfl (lv_at hl 0 rfl) ?_
  refine lv_iload_n hx hb dX0_length_1 rfl (lv_at hl 1 rfl) ?_
  refine vp_callSi (W.runV (As := [.int k]) (rest := []) ⟨hx, hb, hml, hown, hts⟩ (kx_isRow l D hty h0 hd hc hs wr dr ch st n rc hR.2.2.2.2 k) (cwV 1 hts gX0_length_X0_isRow rfl rfl rfl (by decide +kernel) ⟨Nat.le_of_ble_eq_true rfl, Nat.le_of_ble_eq_true rfl⟩) (pu_preV hK hP 0 rfl rfl) rfl rfl hl.1 rfl (lv_room (Nat.le_of_ble_eq_true rfl)) dX0_length_2 ⟨Nat.zero_le _, Nat.zero_le _⟩) (fun r2 er2 => ?_)
  rcases er2 with ⟨er2, hk_k⟩ | ⟨er2, hk_k⟩
  · subst er2
    obtain ⟨k', h1_k, h2_k, rfl⟩ := hk_k
    have hw_k := cn_row_yes (ch := ch) hR h1_k h2_k
    refine lv_if_eq (tgt := 16) hx hb dX0_length_5 (by decide) (fun c_5 => absurd c_5 (by decide)) (fun c_5 => ?_)
    refine lv_aload_n hx hb dX0_length_8 rfl (lv_at hl 0 rfl) ?_
    refine lv_iload_n hx hb dX0_length_9 rfl (lv_at hl 1 rfl) ?_
    refine vp_callSi (W.runV (As := [.int (nI k')]) (rest := []) ⟨hx, hb, hml, hown, hts⟩ (kx_lengthOf l D hty h0 hd hc hs wr dr ch st n rc S hR k' (by omega) (by omega)) (cwV 1 hts gX0_length_X0_lengthOf rfl rfl rfl (by decide +kernel) ⟨Nat.le_of_ble_eq_true rfl, Nat.le_of_ble_eq_true rfl⟩) (pu_preV hK hP 0 rfl rfl) rfl rfl hl.1 rfl (lv_room (Nat.le_of_ble_eq_true rfl)) dX0_length_10 ⟨Nat.zero_le _, Nat.zero_le _⟩) (fun r10 er10 => ?_)
    subst er10
    refine lv_goto (tgt := 17) hx hb dX0_length_13 (by decide) ?_
    exact pu_iret hx hb hr hlocks (by rw [sp_length, hw_k]; show _ = nI (cn_row ch S k').length; rw [cn_row, sp_len]) dX0_length_17
  · subst er2
    have hw_k := cn_row_no (ch := ch) hR hk_k
    refine lv_if_eq (tgt := 16) hx hb dX0_length_5 (by decide) (fun c_5 => ?_) (fun c_5 => absurd c_5 (not_not_intro (by decide)))
    refine lv_iconst (v := (-1)) hx hb dX0_length_16 (by decide) ?_
    exact pu_iret hx hb hr hlocks (by rw [sp_length, hw_k]) dX0_length_17
set_option maxHeartbeats 4000000 in
set_option maxRecDepth 100000 in
/-- sign -/
theorem kx_sign (l : Launch) (D : va_G) {tys : List (ClassId × FieldType)} {cI : ClassId} (hty : tys[0]? = some (cI, .int)) (h0 hd hc hs : Nat) (wr : va_W) (dr ch st : Nat → Int32) (n rc : Nat) (S : Nat → Nat) (hR : cn_S st rc S) (k i : Int32) : Met l yX0_sign wsX0_sign ({ frames := 1, cells := 0, slots := 0, locals := 21 }) (pu_Pc D vwCl (cn_W cI h0 hd hc hs wr dr ch st n rc) tys [.ref h0, .int k, .int i]) (vp_Si (fun r => r = sp_sign (cn_rows ch S 1 rc) k i)) 0 0 (fun _ => False) := by
  refine pu_of (cc := cX0_sign) (maxL := 3) (ret := some .int) (own := RX0) (by decide) rfl rfl (Nat.le_of_ble_eq_true rfl) ?_
  intro p e s m below meth c hx hb hr hts hown hlocks hml hP hK ls hl
  have hl : lv_has ls 3 [(0, .ref h0), (1, .int k), (2, .int i)] := hl
  have hin0 : ∀ w ∈ u_ws RX0 TX0 5, w ∈ wsX0_sign := by decide +kernel
  have f17 := hts (.fieldLink RX0 17 "NameNumbers" "characters" "[I") (by decide +kernel)
  have f20 := hts (.fieldLink RX0 20 "NameNumbers" "starts" "[I") (by decide +kernel)
  refine lv_aload_n hx hb dX0_sign_0 rfl (lv_at hl 0 rfl) ?_
  refine lv_iload_n hx hb dX0_sign_1 rfl (lv_at hl 1 rfl) ?_
  refine vp_callSi (W.runV (As := [.int k]) (rest := []) ⟨hx, hb, hml, hown, hts⟩ (kx_isRow l D hty h0 hd hc hs wr dr ch st n rc hR.2.2.2.2 k) (cwV 1 hts gX0_sign_X0_isRow rfl rfl rfl (by decide +kernel) ⟨Nat.le_of_ble_eq_true rfl, Nat.le_of_ble_eq_true rfl⟩) (pu_preV hK hP 0 rfl rfl) rfl rfl hl.1 rfl (lv_room (Nat.le_of_ble_eq_true rfl)) dX0_sign_2 ⟨Nat.zero_le _, Nat.zero_le _⟩) (fun r2 er2 => ?_)
  rcases er2 with ⟨er2, hk_k⟩ | ⟨er2, hk_k⟩
  · subst er2
    obtain ⟨k', h1_k, h2_k, rfl⟩ := hk_k
    have hw_k := cn_row_yes (ch := ch) hR h1_k h2_k
    refine lv_if_eq (tgt := 21) hx hb dX0_sign_5 (by decide) (fun c_5 => absurd c_5 (by decide)) (fun c_5 => ?_)
    refine lv_iload_n hx hb dX0_sign_8 rfl (lv_at hl 2 rfl) ?_
    refine lv_if_lt (tgt := 21) hx hb dX0_sign_9 (by decide) (fun c_9 => ?_) (fun c_9 => ?_)
    · refine lv_iconst (v := (-1)) hx hb dX0_sign_21 (by decide) ?_
      exact pu_iret hx hb hr hlocks (by first | (rw [sp_sign, hw_k]; done) | (rw [sp_sign, hw_k]; exact (if_pos c_9).symm) | (rw [sp_sign, hw_k]; exact cn_sg_hi hx31 c_18)) dX0_sign_22
    · obtain ⟨x, hx31, rfl⟩ := nI_of c_9
      refine lv_iload_n hx hb dX0_sign_12 rfl (lv_at hl 2 rfl) ?_
      refine lv_aload_n hx hb dX0_sign_13 rfl (lv_at hl 0 rfl) ?_
      refine lv_iload_n hx hb dX0_sign_14 rfl (lv_at hl 1 rfl) ?_
      refine vp_callSi (W.runV (As := [.int (nI k')]) (rest := [.int (nI x)]) ⟨hx, hb, hml, hown, hts⟩ (kx_lengthOf l D hty h0 hd hc hs wr dr ch st n rc S hR k' (by omega) (by omega)) (cwV 1 hts gX0_sign_X0_lengthOf rfl rfl rfl (by decide +kernel) ⟨Nat.le_of_ble_eq_true rfl, Nat.le_of_ble_eq_true rfl⟩) (pu_preV hK hP 0 rfl rfl) rfl rfl hl.1 rfl (lv_room (Nat.le_of_ble_eq_true rfl)) dX0_sign_15 ⟨Nat.zero_le _, Nat.zero_le _⟩) (fun r15 er15 => ?_)
      subst er15
      refine rn_icmp_lt (tgt := 23) hx hb (by have := cn_top hR (k := k' + 1) (by omega) (by omega); omega) (by have := cn_top hR (k := k' + 1) (by omega) (by omega); omega) dX0_sign_18 (by decide) (fun c_18 => ?_) (fun c_18 => ?_)
      · refine lv_aload_n hx hb dX0_sign_23 rfl (lv_at hl 0 rfl) ?_
        refine va_get (D := D) (ci := 0) (v := .ref hc) (C := RX0) (T := TX0) (N := 5) hx hb hts hin0 hown hK hP 0 rfl rfl 2 (by decide) f17 (fun _ h9 => h9) rfl dX0_sign_24 ?_
        refine lv_aload_n hx hb dX0_sign_27 rfl (lv_at hl 0 rfl) ?_
        refine va_get (D := D) (ci := 0) (v := .ref hs) (C := RX0) (T := TX0) (N := 5) hx hb hts hin0 hown hK hP 0 rfl rfl 3 (by decide) f20 (fun _ h9 => h9) rfl dX0_sign_28 ?_
        refine lv_iload_n hx hb dX0_sign_31 rfl (lv_at hl 1 rfl) ?_
        refine rn_ald (v := nI (S k')) hx hb hK hP 3 0 rfl hty (by have := hR.2.2.2.2; omega) (by decide) (hR.2.1 _ (by omega) (by omega)) dX0_sign_32 ?_
        refine lv_iload_n hx hb dX0_sign_33 rfl (lv_at hl 2 rfl) ?_
        refine rn_iadd hx hb dX0_sign_34 ?_
        refine rn_ald (v := ch (S k' + x)) hx hb hK hP 2 0 rfl hty (by have := cn_top hR (k := k' + 1) (by omega) (by omega); have := hR.2.2.1 k' h1_k h2_k; omega) (by decide) (rfl) dX0_sign_35 ?_
        exact pu_iret hx hb hr hlocks (by rw [sp_sign, hw_k]; exact cn_sg_in hx31 c_18) dX0_sign_36
      · refine lv_iconst (v := (-1)) hx hb dX0_sign_21 (by decide) ?_
        exact pu_iret hx hb hr hlocks (by first | (rw [sp_sign, hw_k]; done) | (rw [sp_sign, hw_k]; exact (if_pos c_9).symm) | (rw [sp_sign, hw_k]; exact cn_sg_hi hx31 c_18)) dX0_sign_22
  · subst er2
    have hw_k := cn_row_no (ch := ch) hR hk_k
    refine lv_if_eq (tgt := 21) hx hb dX0_sign_5 (by decide) (fun c_5 => ?_) (fun c_5 => absurd c_5 (not_not_intro (by decide)))
    refine lv_iconst (v := (-1)) hx hb dX0_sign_21 (by decide) ?_
    exact pu_iret hx hb hr hlocks (by first | (rw [sp_sign, hw_k]; done) | (rw [sp_sign, hw_k]; exact (if_pos c_9).symm) | (rw [sp_sign, hw_k]; exact cn_sg_hi hx31 c_18)) dX0_sign_22
set_option maxHeartbeats 4000000 in
set_option maxRecDepth 100000 in
/-- compare -/
theorem kx_compare (l : Launch) (D : va_G) {tys : List (ClassId × FieldType)} {cI : ClassId} (hty : tys[0]? = some (cI, .int)) (h0 hd hc hs : Nat) (wr : va_W) (dr ch st : Nat → Int32) (n rc : Nat) (S : Nat → Nat) (hR : cn_S st rc S) (a b : Int32) : Met l yX0_compare wsX0_compare ({ frames := 2, cells := 0, slots := 0, locals := 60 }) (pu_Pc D vwCl (cn_W cI h0 hd hc hs wr dr ch st n rc) tys [.ref h0, .int a, .int b]) (vp_Si (fun r => r = sp_compare (cn_rows ch S 1 rc) a b)) 0 0 (fun _ => False) := by
  refine pu_of (cc := cX0_compare) (maxL := 3) (ret := some .int) (own := RX0) (by decide) rfl rfl (Nat.le_of_ble_eq_true rfl) ?_
  intro p e s m below meth c hx hb hr hts hown hlocks hml hP hK ls hl
  have hl : lv_has ls 3 [(0, .ref h0), (1, .int a), (2, .int b)] := hl
  refine lv_aload_n hx hb dX0_compare_0 rfl (lv_at hl 0 rfl) ?_
  refine lv_iload_n hx hb dX0_compare_1 rfl (lv_at hl 1 rfl) ?_
  refine vp_callSi (W.runV (As := [.int a]) (rest := []) ⟨hx, hb, hml, hown, hts⟩ (kx_isRow l D hty h0 hd hc hs wr dr ch st n rc hR.2.2.2.2 a) (cwV 1 hts gX0_compare_X0_isRow rfl rfl rfl (by decide +kernel) ⟨Nat.le_of_ble_eq_true rfl, Nat.le_of_ble_eq_true rfl⟩) (pu_preV hK hP 0 rfl rfl) rfl rfl hl.1 rfl (lv_room (Nat.le_of_ble_eq_true rfl)) dX0_compare_2 ⟨Nat.zero_le _, Nat.zero_le _⟩) (fun r2 er2 => ?_)
  rcases er2 with ⟨er2, hk_a⟩ | ⟨er2, hk_a⟩
  · subst er2
    obtain ⟨a', h1_a, h2_a, rfl⟩ := hk_a
    have hw_a := cn_row_yes (ch := ch) hR h1_a h2_a
    refine lv_if_eq (tgt := 16) hx hb dX0_compare_5 (by decide) (fun c_5 => absurd c_5 (by decide)) (fun c_5 => ?_)
    refine lv_aload_n hx hb dX0_compare_8 rfl (lv_at hl 0 rfl) ?_
    refine lv_iload_n hx hb dX0_compare_9 rfl (lv_at hl 2 rfl) ?_
    refine vp_callSi (W.runV (As := [.int b]) (rest := []) ⟨hx, hb, hml, hown, hts⟩ (kx_isRow l D hty h0 hd hc hs wr dr ch st n rc hR.2.2.2.2 b) (cwV 1 hts gX0_compare_X0_isRow rfl rfl rfl (by decide +kernel) ⟨Nat.le_of_ble_eq_true rfl, Nat.le_of_ble_eq_true rfl⟩) (pu_preV hK hP 0 rfl rfl) rfl rfl hl.1 rfl (lv_room (Nat.le_of_ble_eq_true rfl)) dX0_compare_10 ⟨Nat.zero_le _, Nat.zero_le _⟩) (fun r10 er10 => ?_)
    rcases er10 with ⟨er10, hk_b⟩ | ⟨er10, hk_b⟩
    · subst er10
      obtain ⟨b', h1_b, h2_b, rfl⟩ := hk_b
      have hw_b := cn_row_yes (ch := ch) hR h1_b h2_b
      refine lv_if_ne (tgt := 19) hx hb dX0_compare_13 (by decide) (fun c_13 => ?_) (fun c_13 => absurd c_13 (by decide))
      refine lv_aload_n hx hb dX0_compare_19 rfl (lv_at hl 0 rfl) ?_
      refine lv_iload_n hx hb dX0_compare_20 rfl (lv_at hl 1 rfl) ?_
      refine lv_iload_n hx hb dX0_compare_21 rfl (lv_at hl 2 rfl) ?_
      refine vp_callSi (W.runV (As := [.int (nI a'), .int (nI b')]) (rest := []) ⟨hx, hb, hml, hown, hts⟩ (kx_order l D hty h0 hd hc hs wr dr ch st n rc S hR a' b' h1_a h2_a h1_b h2_b) (cwV 2 hts gX0_compare_X0_order rfl rfl rfl (by decide +kernel) ⟨Nat.le_of_ble_eq_true rfl, Nat.le_of_ble_eq_true rfl⟩) (pu_preV hK hP 0 rfl rfl) rfl rfl hl.1 rfl (lv_room (Nat.le_of_ble_eq_true rfl)) dX0_compare_22 ⟨Nat.zero_le _, Nat.zero_le _⟩) (fun r22 er22 => ?_)
      exact pu_iret hx hb hr hlocks (by rw [sp_compare, hw_a, hw_b, er22]) dX0_compare_25
    · subst er10
      have hw_b := cn_row_no (ch := ch) hR hk_b
      refine lv_if_ne (tgt := 19) hx hb dX0_compare_13 (by decide) (fun c_13 => absurd c_13 (not_not_intro (by decide))) (fun c_13 => ?_)
      refine lv_bipush (v := (-2)) hx hb dX0_compare_16 (by decide) ?_
      exact pu_iret hx hb hr hlocks (by first | (rw [sp_compare, hw_a]; done) | (rw [sp_compare, hw_a, hw_b]; done)) dX0_compare_18
  · subst er2
    have hw_a := cn_row_no (ch := ch) hR hk_a
    refine lv_if_eq (tgt := 16) hx hb dX0_compare_5 (by decide) (fun c_5 => ?_) (fun c_5 => absurd c_5 (not_not_intro (by decide)))
    refine lv_bipush (v := (-2)) hx hb dX0_compare_16 (by decide) ?_
    exact pu_iret hx hb hr hlocks (by first | (rw [sp_compare, hw_a]; done) | (rw [sp_compare, hw_a, hw_b]; done)) dX0_compare_18
set_option maxHeartbeats 4000000 in
set_option maxRecDepth 100000 in
/-- isKnown -/
theorem kx_isKnown (l : Launch) (D : va_G) {tys : List (ClassId × FieldType)} {cI : ClassId} (hty : tys[0]? = some (cI, .int)) (h0 hd hc hs : Nat) (wr : va_W) (dr ch st : Nat → Int32) (n rc : Nat) (S : Nat → Nat) (hR : cn_S st rc S) (hn : n ≤ 2000) : Met l yX0_isKnown wsX0_isKnown ({ frames := 3, cells := 0, slots := 0, locals := 80 }) (pu_Pc D vwCl (cn_W cI h0 hd hc hs wr dr ch st n rc) tys [.ref h0]) (vp_Si (fun r => r = sp_known (cn_rows ch S 1 rc) (sp_sl dr 0 n))) 0 0 (fun _ => False) := by
  refine pu_of (cc := cX0_isKnown) (maxL := 1) (ret := some .boolean) (own := RX0) (by decide) rfl rfl (Nat.le_of_ble_eq_true rfl) ?_
  intro p e s m below meth c hx hb hr hts hown hlocks hml hP hK ls hl
  have hl : lv_has ls 1 [(0, .ref h0)] := hl
  have hin0 : ∀ w ∈ u_ws RX0 TX0 5, w ∈ wsX0_isKnown := by decide +kernel
  have f9 := hts (.fieldLink RX0 9 "NameNumbers" "draft" "[I") (by decide +kernel)
  have f13 := hts (.fieldLink RX0 13 "NameNumbers" "draftLength" "I") (by decide +kernel)
  refine lv_aload_n hx hb dX0_isKnown_0 rfl (lv_at hl 0 rfl) ?_
  refine lv_aload_n hx hb dX0_isKnown_1 rfl (lv_at hl 0 rfl) ?_
  refine va_get (D := D) (ci := 0) (v := .ref hd) (C := RX0) (T := TX0) (N := 5) hx hb hts hin0 hown hK hP 0 rfl rfl 0 (by decide) f9 (fun _ h9 => h9) rfl dX0_isKnown_2 ?_
  refine lv_iconst (v := nI 0) hx hb dX0_isKnown_5 (by decide) ?_
  refine lv_aload_n hx hb dX0_isKnown_6 rfl (lv_at hl 0 rfl) ?_
  refine va_get (D := D) (ci := 0) (v := .int (nI n)) (C := RX0) (T := TX0) (N := 5) hx hb hts hin0 hown hK hP 0 rfl rfl 1 (by decide) f13 (fun _ h9 => h9) rfl dX0_isKnown_7 ?_
  refine vp_callSi (W.runV (As := [.ref hd, .int (nI 0), .int (nI n)]) (rest := []) ⟨hx, hb, hml, hown, hts⟩ (kx_find l D hty h0 hd hc hs wr dr ch st n rc S hR 1 hd 2000 dr rfl (by decide) 0 n (by omega)) (cwV 3 hts gX0_isKnown_X0_find rfl rfl rfl (by decide +kernel) ⟨Nat.le_of_ble_eq_true rfl, Nat.le_of_ble_eq_true rfl⟩) (pu_preV hK hP 0 rfl rfl) rfl rfl hl.1 rfl (lv_room (Nat.le_of_ble_eq_true rfl)) dX0_isKnown_10 ⟨Nat.zero_le _, Nat.zero_le _⟩) (fun r10 er10 => ?_)
  refine lv_iconst (v := (-1)) hx hb dX0_isKnown_13 (by decide) ?_
  refine lv_icmp_eq (tgt := 21) hx hb dX0_isKnown_14 (by decide) (fun c_14 => ?_) (fun c_14 => ?_)
  · refine lv_iconst (v := nI 0) hx hb dX0_isKnown_21 (by decide) ?_
    exact pu_zret hx hb hr hlocks (by decide) (cn_known_0 hR c_14 er10) dX0_isKnown_22
  · refine lv_iconst (v := nI 1) hx hb dX0_isKnown_17 (by decide) ?_
    refine lv_goto (tgt := 22) hx hb dX0_isKnown_18 (by decide) ?_
    exact pu_zret hx hb hr hlocks (by decide) (cn_known_1 c_14 er10) dX0_isKnown_22
