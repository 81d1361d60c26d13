abbrev md_W (cI : ClassId) (m0 ms mt ml md mk : Nat) (wr : va_W) (sg ta le dr so : Nat → Int32) (us rc n sn : Nat) : va_W := (m0, .inr (1, [.ref ms, .int (nI us), .ref mt, .ref ml, .int (nI rc), .ref md, .int (nI n), .ref mk, .int (nI sn)])) :: (ms, .inl (cI, 20000, .inl sg)) :: (mt, .inl (cI, 3001, .inl ta)) :: (ml, .inl (cI, 3001, .inl le)) :: (md, .inl (cI, 2000, .inl dr)) :: (mk, .inl (cI, 20000, .inl so)) :: wr
set_option maxHeartbeats 4000000 in
set_option maxRecDepth 100000 in
/-- isRow -/
theorem km_isRow (l : Launch) (D : va_G) {tys : List (ClassId × FieldType)} {cI : ClassId} (hty : tys[0]? = some (cI, .int)) (m0 ms mt ml md mk : Nat) (wr : va_W) (sg ta le dr so : Nat → Int32) (us rc n sn : Nat) (hrc : rc ≤ 3000) (k : Int32) : Met l yX1_isRow wsX1_isRow ({ frames := 0, cells := 0, slots := 0, locals := 0 }) (pu_Pc D vwCl (md_W cI m0 ms mt ml md mk wr sg ta le dr so us rc n sn) tys [.ref m0, .int k]) (vp_Si (fun r => (r = nI 1 ∧ cn_is rc k) ∨ (r = nI 0 ∧ ¬ cn_is rc k))) 0 0 (fun _ => False) := by
  refine pu_of (cc := cX1_isRow) (maxL := 2) (ret := some .boolean) (own := RX1) (by decide) rfl rfl (Nat.le_of_ble_eq_true rfl) ?_
  intro p e s m below meth c hx hb hr hts hown hlocks hml hP hK ls hl
  have hl : lv_has ls 2 [(0, .ref m0), (1, .int k)] := hl
  have hin1 : ∀ w ∈ u_ws RX1 TX1 9, w ∈ wsX1_isRow := by decide +kernel
  have f30 := hts (.fieldLink RX1 30 "NameNumbersModel" "rows" "I") (by decide +kernel)
  refine lv_iload_n hx hb dX1_isRow_0 rfl (lv_at hl 1 rfl) ?_
  refine lv_iconst (v := nI 1) hx hb dX1_isRow_1 (by decide) ?_
  refine lv_icmp_lt (tgt := 17) hx hb dX1_isRow_2 (by decide) (fun c_2 => ?_) (fun c_2 => ?_)
  · refine lv_iconst (v := nI 0) hx hb dX1_isRow_17 (by decide) ?_
    exact pu_zret hx hb hr hlocks (by decide) (Or.inr ⟨rfl, by first | exact cn_is_lo hrc c_2 | exact cn_is_hi hrc c_10⟩) dX1_isRow_18
  · refine lv_iload_n hx hb dX1_isRow_5 rfl (lv_at hl 1 rfl) ?_
    refine lv_aload_n hx hb dX1_isRow_6 rfl (lv_at hl 0 rfl) ?_
    refine va_get (D := D) (ci := 1) (v := .int (nI rc)) (C := RX1) (T := TX1) (N := 9) hx hb hts hin1 hown hK hP 0 rfl rfl 4 (by decide) f30 (fun _ h9 => h9) rfl dX1_isRow_7 ?_
    refine lv_icmp_gt (tgt := 17) hx hb dX1_isRow_10 (by decide) (fun c_10 => ?_) (fun c_10 => ?_)
    · refine lv_iconst (v := nI 0) hx hb dX1_isRow_17 (by decide) ?_
      exact pu_zret hx hb hr hlocks (by decide) (Or.inr ⟨rfl, by first | exact cn_is_lo hrc c_2 | exact cn_is_hi hrc c_10⟩) dX1_isRow_18
    · refine lv_iconst (v := nI 1) hx hb dX1_isRow_13 (by decide) ?_
      refine lv_goto (tgt := 18) hx hb dX1_isRow_14 (by decide) ?_
      exact pu_zret hx hb hr hlocks (by decide) (Or.inl ⟨rfl, cn_is_yes hrc c_2 c_10⟩) dX1_isRow_18
set_option maxHeartbeats 4000000 in
set_option maxRecDepth 100000 in
/-- rows -/
theorem km_rows (l : Launch) (D : va_G) {tys : List (ClassId × FieldType)} {cI : ClassId} (hty : tys[0]? = some (cI, .int)) (m0 ms mt ml md mk : Nat) (wr : va_W) (sg ta le dr so : Nat → Int32) (us rc n sn : Nat)  : Met l yX1_rows wsX1_rows ({ frames := 0, cells := 0, slots := 0, locals := 0 }) (pu_Pc D vwCl (md_W cI m0 ms mt ml md mk wr sg ta le dr so us rc n sn) tys [.ref m0]) (vp_Si (fun r => r = nI rc)) 0 0 (fun _ => False) := by
  refine pu_of (cc := cX1_rows) (maxL := 1) (ret := some .int) (own := RX1) (by decide) rfl rfl (Nat.le_of_ble_eq_true rfl) ?_
  intro p e s m below meth c hx hb hr hts hown hlocks hml hP hK ls hl
  have hl : lv_has ls 1 [(0, .ref m0)] := hl
  have hin1 : ∀ w ∈ u_ws RX1 TX1 9, w ∈ wsX1_rows := by decide +kernel
  have f30 := hts (.fieldLink RX1 30 "NameNumbersModel" "rows" "I") (by decide +kernel)
  refine lv_aload_n hx hb dX1_rows_0 rfl (lv_at hl 0 rfl) ?_
  refine va_get (D := D) (ci := 1) (v := .int (nI rc)) (C := RX1) (T := TX1) (N := 9) hx hb hts hin1 hown hK hP 0 rfl rfl 4 (by decide) f30 (fun _ h9 => h9) rfl dX1_rows_1 ?_
  exact pu_iret hx hb hr hlocks (rfl) dX1_rows_4
set_option maxHeartbeats 4000000 in
set_option maxRecDepth 100000 in
/-- length -/
theorem km_length (l : Launch) (D : va_G) {tys : List (ClassId × FieldType)} {cI : ClassId} (hty : tys[0]? = some (cI, .int)) (m0 ms mt ml md mk : Nat) (wr : va_W) (sg ta le dr so : Nat → Int32) (us rc n sn : Nat) (S : Nat → Nat) (hM : md_S ta le us rc S) (k : Int32) : Met l yX1_length wsX1_length ({ frames := 1, cells := 0, slots := 0, locals := 21 }) (pu_Pc D vwCl (md_W cI m0 ms mt ml md mk wr sg ta le dr so us rc n sn) tys [.ref m0, .int k]) (vp_Si (fun r => r = sp_length (cn_rows sg S 1 rc) k)) 0 0 (fun _ => False) := by
  refine pu_of (cc := cX1_length) (maxL := 2) (ret := some .int) (own := RX1) (by decide) rfl rfl (Nat.le_of_ble_eq_true rfl) ?_
  intro p e s m below meth c hx hb hr hts hown hlocks hml hP hK ls hl
  have hl : lv_has ls 2 [(0, .ref m0), (1, .int k)] := hl
  have hin1 : ∀ w ∈ u_ws RX1 TX1 9, w ∈ wsX1_length := by decide +kernel
  have f16 := hts (.fieldLink RX1 16 "NameNumbersModel" "lengths" "[I") (by decide +kernel)
  refine lv_aload_n hx hb dX1_length_0 rfl (lv_at hl 0 rfl) ?_
  refine lv_iload_n hx hb dX1_length_1 rfl (lv_at hl 1 rfl) ?_
  refine vp_callSi (W.runV (As := [.int k]) (rest := []) ⟨hx, hb, hml, hown, hts⟩ (km_isRow l D hty m0 ms mt ml md mk wr sg ta le dr so us rc n sn hM.2.2.2.2.2 k) (cwV 1 hts gX1_length_X1_isRow rfl rfl rfl (by decide +kernel) ⟨Nat.le_of_ble_eq_true rfl, Nat.le_of_ble_eq_true rfl⟩) (pu_preV hK hP 0 rfl rfl) rfl rfl hl.1 rfl (lv_room (Nat.le_of_ble_eq_true rfl)) dX1_length_2 ⟨Nat.zero_le _, Nat.zero_le _⟩) (fun r2 er2 => ?_)
  rcases er2 with ⟨er2, hk_k⟩ | ⟨er2, hk_k⟩
  · subst er2
    obtain ⟨k', h1_k, h2_k, rfl⟩ := hk_k
    have hw_k := cn_row_yes (ch := sg) (md_R hM) h1_k h2_k
    refine lv_if_eq (tgt := 17) hx hb dX1_length_5 (by decide) (fun c_5 => absurd c_5 (by decide)) (fun c_5 => ?_)
    refine lv_aload_n hx hb dX1_length_8 rfl (lv_at hl 0 rfl) ?_
    refine va_get (D := D) (ci := 1) (v := .ref ml) (C := RX1) (T := TX1) (N := 9) hx hb hts hin1 hown hK hP 0 rfl rfl 3 (by decide) f16 (fun _ h9 => h9) rfl dX1_length_9 ?_
    refine lv_iload_n hx hb dX1_length_12 rfl (lv_at hl 1 rfl) ?_
    refine rn_ald (v := nI (S (k' + 1) - S k')) hx hb hK hP 3 0 rfl hty (by have := hM.2.2.2.2.2; omega) (by decide) ((hM.2.1 k' (by omega) (by omega)).2) dX1_length_13 ?_
    refine lv_goto (tgt := 18) hx hb dX1_length_14 (by decide) ?_
    exact pu_iret hx hb hr hlocks (by rw [sp_length, hw_k]; show _ = nI (cn_row sg S k').length; rw [cn_row, sp_len]) dX1_length_18
  · subst er2
    have hw_k := cn_row_no (ch := sg) (md_R hM) hk_k
    refine lv_if_eq (tgt := 17) hx hb dX1_length_5 (by decide) (fun c_5 => ?_) (fun c_5 => absurd c_5 (not_not_intro (by decide)))
    refine lv_iconst (v := (-1)) hx hb dX1_length_17 (by decide) ?_
    exact pu_iret hx hb hr hlocks (by rw [sp_length, hw_k]) dX1_length_18
set_option maxHeartbeats 4000000 in
set_option maxRecDepth 100000 in
/-- sign -/
theorem km_sign (l : Launch) (D : va_G) {tys : List (ClassId × FieldType)} {cI : ClassId} (hty : tys[0]? = some (cI, .int)) (m0 ms mt ml md mk : Nat) (wr : va_W) (sg ta le dr so : Nat → Int32) (us rc n sn : Nat) (S : Nat → Nat) (hM : md_S ta le us rc S) (k i : Int32) : Met l yX1_sign wsX1_sign ({ frames := 1, cells := 0, slots := 0, locals := 21 }) (pu_Pc D vwCl (md_W cI m0 ms mt ml md mk wr sg ta le dr so us rc n sn) tys [.ref m0, .int k, .int i]) (vp_Si (fun r => r = sp_sign (cn_rows sg S 1 rc) k i)) 0 0 (fun _ => False) := by
  refine pu_of (cc := cX1_sign) (maxL := 3) (ret := some .int) (own := RX1) (by decide) rfl rfl (Nat.le_of_ble_eq_true rfl) ?_
  intro p e s m below meth c hx hb hr hts hown hlocks hml hP hK ls hl
  have hl : lv_has ls 3 [(0, .ref m0), (1, .int k), (2, .int i)] := hl
  have hin1 : ∀ w ∈ u_ws RX1 TX1 9, w ∈ wsX1_sign := by decide +kernel
  have f7 := hts (.fieldLink RX1 7 "NameNumbersModel" "signs" "[I") (by decide +kernel)
  have f13 := hts (.fieldLink RX1 13 "NameNumbersModel" "starts" "[I") (by decide +kernel)
  have f16 := hts (.fieldLink RX1 16 "NameNumbersModel" "lengths" "[I") (by decide +kernel)
  refine lv_aload_n hx hb dX1_sign_0 rfl (lv_at hl 0 rfl) ?_
  refine lv_iload_n hx hb dX1_sign_1 rfl (lv_at hl 1 rfl) ?_
  refine vp_callSi (W.runV (As := [.int k]) (rest := []) ⟨hx, hb, hml, hown, hts⟩ (km_isRow l D hty m0 ms mt ml md mk wr sg ta le dr so us rc n sn hM.2.2.2.2.2 k) (cwV 1 hts gX1_sign_X1_isRow rfl rfl rfl (by decide +kernel) ⟨Nat.le_of_ble_eq_true rfl, Nat.le_of_ble_eq_true rfl⟩) (pu_preV hK hP 0 rfl rfl) rfl rfl hl.1 rfl (lv_room (Nat.le_of_ble_eq_true rfl)) dX1_sign_2 ⟨Nat.zero_le _, Nat.zero_le _⟩) (fun r2 er2 => ?_)
  rcases er2 with ⟨er2, hk_k⟩ | ⟨er2, hk_k⟩
  · subst er2
    obtain ⟨k', h1_k, h2_k, rfl⟩ := hk_k
    have hw_k := cn_row_yes (ch := sg) (md_R hM) h1_k h2_k
    refine lv_if_eq (tgt := 38) hx hb dX1_sign_5 (by decide) (fun c_5 => absurd c_5 (by decide)) (fun c_5 => ?_)
    refine lv_iload_n hx hb dX1_sign_8 rfl (lv_at hl 2 rfl) ?_
    refine lv_if_lt (tgt := 38) hx hb dX1_sign_9 (by decide) (fun c_9 => ?_) (fun c_9 => ?_)
    · refine lv_iconst (v := (-1)) hx hb dX1_sign_38 (by decide) ?_
      exact pu_iret hx hb hr hlocks (by first | (rw [sp_sign, hw_k]; done) | (rw [sp_sign, hw_k]; exact (if_pos c_9).symm) | (rw [sp_sign, hw_k]; exact cn_sg_hi hx31 c_19)) dX1_sign_39
    · obtain ⟨x, hx31, rfl⟩ := nI_of c_9
      refine lv_iload_n hx hb dX1_sign_12 rfl (lv_at hl 2 rfl) ?_
      refine lv_aload_n hx hb dX1_sign_13 rfl (lv_at hl 0 rfl) ?_
      refine va_get (D := D) (ci := 1) (v := .ref ml) (C := RX1) (T := TX1) (N := 9) hx hb hts hin1 hown hK hP 0 rfl rfl 3 (by decide) f16 (fun _ h9 => h9) rfl dX1_sign_14 ?_
      refine lv_iload_n hx hb dX1_sign_17 rfl (lv_at hl 1 rfl) ?_
      refine rn_ald (v := nI (S (k' + 1) - S k')) hx hb hK hP 3 0 rfl hty (by have := hM.2.2.2.2.2; omega) (by decide) ((hM.2.1 k' (by omega) (by omega)).2) dX1_sign_18 ?_
      refine rn_icmp_ge (tgt := 38) hx hb (by have := cn_top (md_R hM) (k := k' + 1) (by omega) (by omega); omega) (by have := cn_top (md_R hM) (k := k' + 1) (by omega) (by omega); omega) dX1_sign_19 (by decide) (fun c_19 => ?_) (fun c_19 => ?_)
      · refine lv_iconst (v := (-1)) hx hb dX1_sign_38 (by decide) ?_
        exact pu_iret hx hb hr hlocks (by first | (rw [sp_sign, hw_k]; done) | (rw [sp_sign, hw_k]; exact (if_pos c_9).symm) | (rw [sp_sign, hw_k]; exact cn_sg_hi hx31 c_19)) dX1_sign_39
      · refine lv_aload_n hx hb dX1_sign_22 rfl (lv_at hl 0 rfl) ?_
        refine va_get (D := D) (ci := 1) (v := .ref ms) (C := RX1) (T := TX1) (N := 9) hx hb hts hin1 hown hK hP 0 rfl rfl 0 (by decide) f7 (fun _ h9 => h9) rfl dX1_sign_23 ?_
        refine lv_aload_n hx hb dX1_sign_26 rfl (lv_at hl 0 rfl) ?_
        refine va_get (D := D) (ci := 1) (v := .ref mt) (C := RX1) (T := TX1) (N := 9) hx hb hts hin1 hown hK hP 0 rfl rfl 2 (by decide) f13 (fun _ h9 => h9) rfl dX1_sign_27 ?_
        refine lv_iload_n hx hb dX1_sign_30 rfl (lv_at hl 1 rfl) ?_
        refine rn_ald (v := nI (S k')) hx hb hK hP 2 0 rfl hty (by have := hM.2.2.2.2.2; omega) (by decide) ((hM.2.1 k' (by omega) (by omega)).1) dX1_sign_31 ?_
        refine lv_iload_n hx hb dX1_sign_32 rfl (lv_at hl 2 rfl) ?_
        refine rn_iadd hx hb dX1_sign_33 ?_
        refine rn_ald (v := sg (S k' + x)) hx hb hK hP 1 0 rfl hty (by have := cn_top (md_R hM) (k := k' + 1) (by omega) (by omega); have := hM.2.2.1 k' h1_k h2_k; omega) (by decide) (rfl) dX1_sign_34 ?_
        refine lv_goto (tgt := 39) hx hb dX1_sign_35 (by decide) ?_
        exact pu_iret hx hb hr hlocks (by rw [sp_sign, hw_k]; exact cn_sg_in hx31 c_19) dX1_sign_39
  · subst er2
    have hw_k := cn_row_no (ch := sg) (md_R hM) hk_k
    refine lv_if_eq (tgt := 38) hx hb dX1_sign_5 (by decide) (fun c_5 => ?_) (fun c_5 => absurd c_5 (not_not_intro (by decide)))
    refine lv_iconst (v := (-1)) hx hb dX1_sign_38 (by decide) ?_
    exact pu_iret hx hb hr hlocks (by first | (rw [sp_sign, hw_k]; done) | (rw [sp_sign, hw_k]; exact (if_pos c_9).symm) | (rw [sp_sign, hw_k]; exact cn_sg_hi hx31 c_19)) dX1_sign_39
set_option maxHeartbeats 4000000 in
set_option maxRecDepth 100000 in
/-- order -/
theorem km_order (l : Launch) (D : va_G) {tys : List (ClassId × FieldType)} {cI : ClassId} (hty : tys[0]? = some (cI, .int)) (m0 ms mt ml md mk : Nat) (wr : va_W) (sg ta le dr so : Nat → Int32) (us rc n sn : Nat) (S : Nat → Nat) (hM : md_S ta le us rc S) (u v : Nat) (hu1 : 1 ≤ u) (hu2 : u ≤ rc) (hv1 : 1 ≤ v) (hv2 : v ≤ rc) (hpu : ∀ z, z < S (u + 1) - S u → ¬ sg (S u + z) < 0) (hpv : ∀ z, z < S (v + 1) - S v → ¬ sg (S v + z) < 0) : Met l yX1_order wsX1_order ({ frames := 0, cells := 0, slots := 0, locals := 0 }) (pu_Pc D vwCl (md_W cI m0 ms mt ml md mk wr sg ta le dr so us rc n sn) tys [.ref m0, .int (nI u), .int (nI v)]) (vp_Si (fun r => r = sp_cmp (cn_row sg S u) (cn_row sg S v))) 0 0 (fun _ => False) := by
  refine pu_of (cc := cX1_order) (maxL := 6) (ret := some .int) (own := RX1) (by decide) rfl rfl (Nat.le_of_ble_eq_true rfl) ?_
  intro p e s m below meth c hx hb hr hts hown hlocks hml hP hK ls hl
  have hl : lv_has ls 6 [(0, .ref m0), (1, .int (nI u)), (2, .int (nI v))] := hl
  have hin1 : ∀ w ∈ u_ws RX1 TX1 9, w ∈ wsX1_order := by decide +kernel
  have f7 := hts (.fieldLink RX1 7 "NameNumbersModel" "signs" "[I") (by decide +kernel)
  have f13 := hts (.fieldLink RX1 13 "NameNumbersModel" "starts" "[I") (by decide +kernel)
  have f16 := hts (.fieldLink RX1 16 "NameNumbersModel" "lengths" "[I") (by decide +kernel)
  have hlu := hM.2.2.1 u hu1 hu2
  have hlv := hM.2.2.1 v hv1 hv2
  have htu := cn_top (md_R hM) (k := u + 1) (by omega) (by omega)
  have htv := cn_top (md_R hM) (k := v + 1) (by omega) (by omega)
  have tail : ∀ (i : Nat) (ls : Array Slot), i ≤ S (u + 1) - S u → i ≤ S (v + 1) - S v → (∀ z, z < i → sg (S u + z) = sg (S v + z)) → (S (u + 1) - S u ≤ i ∨ S (v + 1) - S v ≤ i ∨ ¬ sg (S u + i) = sg (S v + i)) → lv_has ls 6 [(0, .ref m0), (1, .int (nI u)), (2, .int (nI v)), (3, .int (nI i))] → W p l e { frames := 0, cells := 0, slots := 0, locals := 0 } s m [.ref m0, .int (nI u), .int (nI v)].toArray below meth c s.heap [] 0 0 (MQ below (vp_Si (fun r => r = sp_cmp (cn_row sg S u) (cn_row sg S v))) [.ref m0, .int (nI u), .int (nI v)].toArray s 0 0 (fun _ => False)) (F0 m 58 ls []) := by
    intro i ls hi1 hi2 hinv hst hl
    refine lv_iload_n hx hb dX1_order_58 rfl (lv_at hl 3 rfl) ?_
    refine lv_aload_n hx hb dX1_order_59 rfl (lv_at hl 0 rfl) ?_
    refine va_get (D := D) (ci := 1) (v := .ref ml) (C := RX1) (T := TX1) (N := 9) hx hb hts hin1 hown hK hP 0 rfl rfl 3 (by decide) f16 (fun _ h9 => h9) rfl dX1_order_60 ?_
    refine lv_iload_n hx hb dX1_order_63 rfl (lv_at hl 1 rfl) ?_
    refine rn_ald (v := nI (S (u + 1) - S u)) hx hb hK hP 3 0 rfl hty (by have := hM.2.2.2.2.2; omega) (by decide) ((hM.2.1 u (by omega) (by omega)).2) dX1_order_64 ?_
    refine rn_icmp_ge (tgt := 84) hx hb (by omega) (by omega) dX1_order_65 (by decide) (fun c_65 => ?_) (fun c_65 => ?_)
    · refine lv_iconst (v := (-1)) hx hb dX1_order_84 (by decide) ?_
      refine lv_istore (lv' := [(4, .int (-1)), (0, .ref m0), (1, .int (nI u)), (2, .int (nI v)), (3, .int (nI i))]) hx hb dX1_order_85 hl (by decide) rfl (fun ls hl => ?_)
      refine lv_iload_n hx hb dX1_order_87 rfl (lv_at hl 4 rfl) ?_
      refine lv_aload_n hx hb dX1_order_88 rfl (lv_at hl 1 rfl) ?_
      refine va_get (D := D) (ci := 1) (v := .ref ml) (C := RX1) (T := TX1) (N := 9) hx hb hts hin1 hown hK hP 0 rfl rfl 3 (by decide) f16 (fun _ h9 => h9) rfl dX1_order_89 ?_
      refine lv_iload_n hx hb dX1_order_92 rfl (lv_at hl 3 rfl) ?_
      refine rn_ald (v := nI (S (v + 1) - S v)) hx hb hK hP 3 0 rfl hty (by have := hM.2.2.2.2.2; omega) (by decide) ((hM.2.1 v (by omega) (by omega)).2) dX1_order_93 ?_
      refine rn_icmp_ge (tgt := 113) hx hb (by omega) (by omega) dX1_order_94 (by decide) (fun c_94 => ?_) (fun c_94 => ?_)
      · refine lv_iconst (v := (-1)) hx hb dX1_order_113 (by decide) ?_
        refine lv_istore (lv' := [(5, .int (-1)), (4, .int (-1)), (0, .ref m0), (1, .int (nI u)), (2, .int (nI v)), (3, .int (nI i))]) hx hb dX1_order_114 hl (by decide) rfl (fun ls hl => ?_)
        refine lv_iload hx hb dX1_order_116 (lv_at hl 1 rfl) ?_
        refine lv_iload hx hb dX1_order_118 (lv_at hl 0 rfl) ?_
        refine lv_icmp_ge (tgt := 127) hx hb dX1_order_120 (by decide) (fun c_120 => ?_) (fun c_120 => ?_)
        · refine lv_iload hx hb dX1_order_127 (lv_at hl 1 rfl) ?_
          refine lv_iload hx hb dX1_order_129 (lv_at hl 0 rfl) ?_
          refine lv_icmp_le (tgt := 138) hx hb dX1_order_131 (by decide) (fun c_131 => ?_) (fun c_131 => ?_)
          · refine lv_iconst (v := nI 0) hx hb dX1_order_138 (by decide) ?_
            exact pu_iret hx hb hr hlocks (by rw [cn_row, cn_row, md_ord (x := (-1)) (y := (-1)) (by first | exact Or.inl ⟨c_65, rfl⟩ | exact Or.inr ⟨c_65, rfl⟩) (by first | exact Or.inl ⟨c_94, rfl⟩ | exact Or.inr ⟨c_94, rfl⟩) hinv hst hpu hpv hi1 hi2, if_neg (Int32.not_lt.mpr c_120), if_neg (Int32.not_lt.mpr c_131)]; rfl) dX1_order_139
          · refine lv_iconst (v := nI 1) hx hb dX1_order_134 (by decide) ?_
            refine lv_goto (tgt := 139) hx hb dX1_order_135 (by decide) ?_
            exact pu_iret hx hb hr hlocks (by rw [cn_row, cn_row, md_ord (x := (-1)) (y := (-1)) (by first | exact Or.inl ⟨c_65, rfl⟩ | exact Or.inr ⟨c_65, rfl⟩) (by first | exact Or.inl ⟨c_94, rfl⟩ | exact Or.inr ⟨c_94, rfl⟩) hinv hst hpu hpv hi1 hi2, if_neg (Int32.not_lt.mpr c_120), if_pos (Int32.not_le.mp c_131)]; rfl) dX1_order_139
        · refine lv_iconst (v := (-1)) hx hb dX1_order_123 (by decide) ?_
          refine lv_goto (tgt := 139) hx hb dX1_order_124 (by decide) ?_
          exact pu_iret hx hb hr hlocks (by rw [cn_row, cn_row, md_ord (x := (-1)) (y := (-1)) (by first | exact Or.inl ⟨c_65, rfl⟩ | exact Or.inr ⟨c_65, rfl⟩) (by first | exact Or.inl ⟨c_94, rfl⟩ | exact Or.inr ⟨c_94, rfl⟩) hinv hst hpu hpv hi1 hi2, if_pos (Int32.not_le.mp c_120)]) dX1_order_139
      · refine lv_aload_n hx hb dX1_order_97 rfl (lv_at hl 1 rfl) ?_
        refine va_get (D := D) (ci := 1) (v := .ref ms) (C := RX1) (T := TX1) (N := 9) hx hb hts hin1 hown hK hP 0 rfl rfl 0 (by decide) f7 (fun _ h9 => h9) rfl dX1_order_98 ?_
        refine lv_aload_n hx hb dX1_order_101 rfl (lv_at hl 1 rfl) ?_
        refine va_get (D := D) (ci := 1) (v := .ref mt) (C := RX1) (T := TX1) (N := 9) hx hb hts hin1 hown hK hP 0 rfl rfl 2 (by decide) f13 (fun _ h9 => h9) rfl dX1_order_102 ?_
        refine lv_iload_n hx hb dX1_order_105 rfl (lv_at hl 3 rfl) ?_
        refine rn_ald (v := nI (S v)) hx hb hK hP 2 0 rfl hty (by have := hM.2.2.2.2.2; omega) (by decide) ((hM.2.1 v (by omega) (by omega)).1) dX1_order_106 ?_
        refine lv_iload_n hx hb dX1_order_107 rfl (lv_at hl 4 rfl) ?_
        refine rn_iadd hx hb dX1_order_108 ?_
        refine rn_ald (v := sg (S v + i)) hx hb hK hP 1 0 rfl hty (by omega) (by decide) (rfl) dX1_order_109 ?_
        refine lv_goto (tgt := 114) hx hb dX1_order_110 (by decide) ?_
        refine lv_istore (lv' := [(5, .int (sg (S v + i))), (4, .int (-1)), (0, .ref m0), (1, .int (nI u)), (2, .int (nI v)), (3, .int (nI i))]) hx hb dX1_order_114 hl (by decide) rfl (fun ls hl => ?_)
        refine lv_iload hx hb dX1_order_116 (lv_at hl 1 rfl) ?_
        refine lv_iload hx hb dX1_order_118 (lv_at hl 0 rfl) ?_
        refine lv_icmp_ge (tgt := 127) hx hb dX1_order_120 (by decide) (fun c_120 => ?_) (fun c_120 => ?_)
        · refine lv_iload hx hb dX1_order_127 (lv_at hl 1 rfl) ?_
          refine lv_iload hx hb dX1_order_129 (lv_at hl 0 rfl) ?_
          refine lv_icmp_le (tgt := 138) hx hb dX1_order_131 (by decide) (fun c_131 => ?_) (fun c_131 => ?_)
          · refine lv_iconst (v := nI 0) hx hb dX1_order_138 (by decide) ?_
            exact pu_iret hx hb hr hlocks (by rw [cn_row, cn_row, md_ord (x := (-1)) (y := sg (S v + i)) (by first | exact Or.inl ⟨c_65, rfl⟩ | exact Or.inr ⟨c_65, rfl⟩) (by first | exact Or.inl ⟨c_94, rfl⟩ | exact Or.inr ⟨c_94, rfl⟩) hinv hst hpu hpv hi1 hi2, if_neg (Int32.not_lt.mpr c_120), if_neg (Int32.not_lt.mpr c_131)]; rfl) dX1_order_139
          · refine lv_iconst (v := nI 1) hx hb dX1_order_134 (by decide) ?_
            refine lv_goto (tgt := 139) hx hb dX1_order_135 (by decide) ?_
            exact pu_iret hx hb hr hlocks (by rw [cn_row, cn_row, md_ord (x := (-1)) (y := sg (S v + i)) (by first | exact Or.inl ⟨c_65, rfl⟩ | exact Or.inr ⟨c_65, rfl⟩) (by first | exact Or.inl ⟨c_94, rfl⟩ | exact Or.inr ⟨c_94, rfl⟩) hinv hst hpu hpv hi1 hi2, if_neg (Int32.not_lt.mpr c_120), if_pos (Int32.not_le.mp c_131)]; rfl) dX1_order_139
        · refine lv_iconst (v := (-1)) hx hb dX1_order_123 (by decide) ?_
          refine lv_goto (tgt := 139) hx hb dX1_order_124 (by decide) ?_
          exact pu_iret hx hb hr hlocks (by rw [cn_row, cn_row, md_ord (x := (-1)) (y := sg (S v + i)) (by first | exact Or.inl ⟨c_65, rfl⟩ | exact Or.inr ⟨c_65, rfl⟩) (by first | exact Or.inl ⟨c_94, rfl⟩ | exact Or.inr ⟨c_94, rfl⟩) hinv hst hpu hpv hi1 hi2, if_pos (Int32.not_le.mp c_120)]) dX1_order_139
    · refine lv_aload_n hx hb dX1_order_68 rfl (lv_at hl 0 rfl) ?_
      refine va_get (D := D) (ci := 1) (v := .ref ms) (C := RX1) (T := TX1) (N := 9) hx hb hts hin1 hown hK hP 0 rfl rfl 0 (by decide) f7 (fun _ h9 => h9) rfl dX1_order_69 ?_
      refine lv_aload_n hx hb dX1_order_72 rfl (lv_at hl 0 rfl) ?_
      refine va_get (D := D) (ci := 1) (v := .ref mt) (C := RX1) (T := TX1) (N := 9) hx hb hts hin1 hown hK hP 0 rfl rfl 2 (by decide) f13 (fun _ h9 => h9) rfl dX1_order_73 ?_
      refine lv_iload_n hx hb dX1_order_76 rfl (lv_at hl 1 rfl) ?_
      refine rn_ald (v := nI (S u)) hx hb hK hP 2 0 rfl hty (by have := hM.2.2.2.2.2; omega) (by decide) ((hM.2.1 u (by omega) (by omega)).1) dX1_order_77 ?_
      refine lv_iload_n hx hb dX1_order_78 rfl (lv_at hl 3 rfl) ?_
      refine rn_iadd hx hb dX1_order_79 ?_
      refine rn_ald (v := sg (S u + i)) hx hb hK hP 1 0 rfl hty (by omega) (by decide) (rfl) dX1_order_80 ?_
      refine lv_goto (tgt := 85) hx hb dX1_order_81 (by decide) ?_
      refine lv_istore (lv' := [(4, .int (sg (S u + i))), (0, .ref m0), (1, .int (nI u)), (2, .int (nI v)), (3, .int (nI i))]) hx hb dX1_order_85 hl (by decide) rfl (fun ls hl => ?_)
      refine lv_iload_n hx hb dX1_order_87 rfl (lv_at hl 4 rfl) ?_
      refine lv_aload_n hx hb dX1_order_88 rfl (lv_at hl 1 rfl) ?_
      refine va_get (D := D) (ci := 1) (v := .ref ml) (C := RX1) (T := TX1) (N := 9) hx hb hts hin1 hown hK hP 0 rfl rfl 3 (by decide) f16 (fun _ h9 => h9) rfl dX1_order_89 ?_
      refine lv_iload_n hx hb dX1_order_92 rfl (lv_at hl 3 rfl) ?_
      refine rn_ald (v := nI (S (v + 1) - S v)) hx hb hK hP 3 0 rfl hty (by have := hM.2.2.2.2.2; omega) (by decide) ((hM.2.1 v (by omega) (by omega)).2) dX1_order_93 ?_
      refine rn_icmp_ge (tgt := 113) hx hb (by omega) (by omega) dX1_order_94 (by decide) (fun c_94 => ?_) (fun c_94 => ?_)
      · refine lv_iconst (v := (-1)) hx hb dX1_order_113 (by decide) ?_
        refine lv_istore (lv' := [(5, .int (-1)), (4, .int (sg (S u + i))), (0, .ref m0), (1, .int (nI u)), (2, .int (nI v)), (3, .int (nI i))]) hx hb dX1_order_114 hl (by decide) rfl (fun ls hl => ?_)
        refine lv_iload hx hb dX1_order_116 (lv_at hl 1 rfl) ?_
        refine lv_iload hx hb dX1_order_118 (lv_at hl 0 rfl) ?_
        refine lv_icmp_ge (tgt := 127) hx hb dX1_order_120 (by decide) (fun c_120 => ?_) (fun c_120 => ?_)
        · refine lv_iload hx hb dX1_order_127 (lv_at hl 1 rfl) ?_
          refine lv_iload hx hb dX1_order_129 (lv_at hl 0 rfl) ?_
          refine lv_icmp_le (tgt := 138) hx hb dX1_order_131 (by decide) (fun c_131 => ?_) (fun c_131 => ?_)
          · refine lv_iconst (v := nI 0) hx hb dX1_order_138 (by decide) ?_
            exact pu_iret hx hb hr hlocks (by rw [cn_row, cn_row, md_ord (x := sg (S u + i)) (y := (-1)) (by first | exact Or.inl ⟨c_65, rfl⟩ | exact Or.inr ⟨c_65, rfl⟩) (by first | exact Or.inl ⟨c_94, rfl⟩ | exact Or.inr ⟨c_94, rfl⟩) hinv hst hpu hpv hi1 hi2, if_neg (Int32.not_lt.mpr c_120), if_neg (Int32.not_lt.mpr c_131)]; rfl) dX1_order_139
          · refine lv_iconst (v := nI 1) hx hb dX1_order_134 (by decide) ?_
            refine lv_goto (tgt := 139) hx hb dX1_order_135 (by decide) ?_
            exact pu_iret hx hb hr hlocks (by rw [cn_row, cn_row, md_ord (x := sg (S u + i)) (y := (-1)) (by first | exact Or.inl ⟨c_65, rfl⟩ | exact Or.inr ⟨c_65, rfl⟩) (by first | exact Or.inl ⟨c_94, rfl⟩ | exact Or.inr ⟨c_94, rfl⟩) hinv hst hpu hpv hi1 hi2, if_neg (Int32.not_lt.mpr c_120), if_pos (Int32.not_le.mp c_131)]; rfl) dX1_order_139
        · refine lv_iconst (v := (-1)) hx hb dX1_order_123 (by decide) ?_
          refine lv_goto (tgt := 139) hx hb dX1_order_124 (by decide) ?_
          exact pu_iret hx hb hr hlocks (by rw [cn_row, cn_row, md_ord (x := sg (S u + i)) (y := (-1)) (by first | exact Or.inl ⟨c_65, rfl⟩ | exact Or.inr ⟨c_65, rfl⟩) (by first | exact Or.inl ⟨c_94, rfl⟩ | exact Or.inr ⟨c_94, rfl⟩) hinv hst hpu hpv hi1 hi2, if_pos (Int32.not_le.mp c_120)]) dX1_order_139
      · refine lv_aload_n hx hb dX1_order_97 rfl (lv_at hl 1 rfl) ?_
        refine va_get (D := D) (ci := 1) (v := .ref ms) (C := RX1) (T := TX1) (N := 9) hx hb hts hin1 hown hK hP 0 rfl rfl 0 (by decide) f7 (fun _ h9 => h9) rfl dX1_order_98 ?_
        refine lv_aload_n hx hb dX1_order_101 rfl (lv_at hl 1 rfl) ?_
        refine va_get (D := D) (ci := 1) (v := .ref mt) (C := RX1) (T := TX1) (N := 9) hx hb hts hin1 hown hK hP 0 rfl rfl 2 (by decide) f13 (fun _ h9 => h9) rfl dX1_order_102 ?_
        refine lv_iload_n hx hb dX1_order_105 rfl (lv_at hl 3 rfl) ?_
        refine rn_ald (v := nI (S v)) hx hb hK hP 2 0 rfl hty (by have := hM.2.2.2.2.2; omega) (by decide) ((hM.2.1 v (by omega) (by omega)).1) dX1_order_106 ?_
        refine lv_iload_n hx hb dX1_order_107 rfl (lv_at hl 4 rfl) ?_
        refine rn_iadd hx hb dX1_order_108 ?_
        refine rn_ald (v := sg (S v + i)) hx hb hK hP 1 0 rfl hty (by omega) (by decide) (rfl) dX1_order_109 ?_
        refine lv_goto (tgt := 114) hx hb dX1_order_110 (by decide) ?_
        refine lv_istore (lv' := [(5, .int (sg (S v + i))), (4, .int (sg (S u + i))), (0, .ref m0), (1, .int (nI u)), (2, .int (nI v)), (3, .int (nI i))]) hx hb dX1_order_114 hl (by decide) rfl (fun ls hl => ?_)
        refine lv_iload hx hb dX1_order_116 (lv_at hl 1 rfl) ?_
        refine lv_iload hx hb dX1_order_118 (lv_at hl 0 rfl) ?_
        refine lv_icmp_ge (tgt := 127) hx hb dX1_order_120 (by decide) (fun c_120 => ?_) (fun c_120 => ?_)
        · refine lv_iload hx hb dX1_order_127 (lv_at hl 1 rfl) ?_
          refine lv_iload hx hb dX1_order_129 (lv_at hl 0 rfl) ?_
          refine lv_icmp_le (tgt := 138) hx hb dX1_order_131 (by decide) (fun c_131 => ?_) (fun c_131 => ?_)
          · refine lv_iconst (v := nI 0) hx hb dX1_order_138 (by decide) ?_
            exact pu_iret hx hb hr hlocks (by rw [cn_row, cn_row, md_ord (x := sg (S u + i)) (y := sg (S v + i)) (by first | exact Or.inl ⟨c_65, rfl⟩ | exact Or.inr ⟨c_65, rfl⟩) (by first | exact Or.inl ⟨c_94, rfl⟩ | exact Or.inr ⟨c_94, rfl⟩) hinv hst hpu hpv hi1 hi2, if_neg (Int32.not_lt.mpr c_120), if_neg (Int32.not_lt.mpr c_131)]; rfl) dX1_order_139
          · refine lv_iconst (v := nI 1) hx hb dX1_order_134 (by decide) ?_
            refine lv_goto (tgt := 139) hx hb dX1_order_135 (by decide) ?_
            exact pu_iret hx hb hr hlocks (by rw [cn_row, cn_row, md_ord (x := sg (S u + i)) (y := sg (S v + i)) (by first | exact Or.inl ⟨c_65, rfl⟩ | exact Or.inr ⟨c_65, rfl⟩) (by first | exact Or.inl ⟨c_94, rfl⟩ | exact Or.inr ⟨c_94, rfl⟩) hinv hst hpu hpv hi1 hi2, if_neg (Int32.not_lt.mpr c_120), if_pos (Int32.not_le.mp c_131)]; rfl) dX1_order_139
        · refine lv_iconst (v := (-1)) hx hb dX1_order_123 (by decide) ?_
          refine lv_goto (tgt := 139) hx hb dX1_order_124 (by decide) ?_
          exact pu_iret hx hb hr hlocks (by rw [cn_row, cn_row, md_ord (x := sg (S u + i)) (y := sg (S v + i)) (by first | exact Or.inl ⟨c_65, rfl⟩ | exact Or.inr ⟨c_65, rfl⟩) (by first | exact Or.inl ⟨c_94, rfl⟩ | exact Or.inr ⟨c_94, rfl⟩) hinv hst hpu hpv hi1 hi2, if_pos (Int32.not_le.mp c_120)]) dX1_order_139
  have loop : ∀ (j : Nat) (i : Nat) (ls : Array Slot), (S (u + 1) - S u) + 1 ≤ i + j → i ≤ S (u + 1) - S u → i ≤ S (v + 1) - S v → (∀ z, z < i → sg (S u + z) = sg (S v + z)) → lv_has ls 6 [(0, .ref m0), (1, .int (nI u)), (2, .int (nI v)), (3, .int (nI i))] → W p l e { frames := 0, cells := 0, slots := 0, locals := 0 } s m [.ref m0, .int (nI u), .int (nI v)].toArray below meth c s.heap [] 0 0 (MQ below (vp_Si (fun r => r = sp_cmp (cn_row sg S u) (cn_row sg S v))) [.ref m0, .int (nI u), .int (nI v)].toArray s 0 0 (fun _ => False)) (F0 m 2 ls []) := by
    intro j
    induction j with
    | zero => intro i ls hj hi1 hi2 hinv hl; exfalso; omega
    | succ j ih =>
      intro i ls hj hi1 hi2 hinv hl
      refine lv_iload_n hx hb dX1_order_2 rfl (lv_at hl 3 rfl) ?_
      refine lv_aload_n hx hb dX1_order_3 rfl (lv_at hl 0 rfl) ?_
      refine va_get (D := D) (ci := 1) (v := .ref ml) (C := RX1) (T := TX1) (N := 9) hx hb hts hin1 hown hK hP 0 rfl rfl 3 (by decide) f16 (fun _ h9 => h9) rfl dX1_order_4 ?_
      refine lv_iload_n hx hb dX1_order_7 rfl (lv_at hl 1 rfl) ?_
      refine rn_ald (v := nI (S (u + 1) - S u)) hx hb hK hP 3 0 rfl hty (by have := hM.2.2.2.2.2; omega) (by decide) ((hM.2.1 u (by omega) (by omega)).2) dX1_order_8 ?_
      refine rn_icmp_ge (tgt := 58) hx hb (by omega) (by omega) dX1_order_9 (by decide) (fun c_9 => ?_) (fun c_9 => ?_)
      · exact tail i ls hi1 hi2 hinv (by first | exact Or.inr (Or.inr c_48) | exact Or.inr (Or.inl c_19) | exact Or.inl c_9) (lv_sub hl [0, 1, 2, 3] rfl)
      · refine lv_iload_n hx hb dX1_order_12 rfl (lv_at hl 3 rfl) ?_
        refine lv_aload_n hx hb dX1_order_13 rfl (lv_at hl 0 rfl) ?_
        refine va_get (D := D) (ci := 1) (v := .ref ml) (C := RX1) (T := TX1) (N := 9) hx hb hts hin1 hown hK hP 0 rfl rfl 3 (by decide) f16 (fun _ h9 => h9) rfl dX1_order_14 ?_
        refine lv_iload_n hx hb dX1_order_17 rfl (lv_at hl 2 rfl) ?_
        refine rn_ald (v := nI (S (v + 1) - S v)) hx hb hK hP 3 0 rfl hty (by have := hM.2.2.2.2.2; omega) (by decide) ((hM.2.1 v (by omega) (by omega)).2) dX1_order_18 ?_
        refine rn_icmp_ge (tgt := 58) hx hb (by omega) (by omega) dX1_order_19 (by decide) (fun c_19 => ?_) (fun c_19 => ?_)
        · exact tail i ls hi1 hi2 hinv (by first | exact Or.inr (Or.inr c_48) | exact Or.inr (Or.inl c_19) | exact Or.inl c_9) (lv_sub hl [0, 1, 2, 3] rfl)
        · refine lv_aload_n hx hb dX1_order_22 rfl (lv_at hl 0 rfl) ?_
          refine va_get (D := D) (ci := 1) (v := .ref ms) (C := RX1) (T := TX1) (N := 9) hx hb hts hin1 hown hK hP 0 rfl rfl 0 (by decide) f7 (fun _ h9 => h9) rfl dX1_order_23 ?_
          refine lv_aload_n hx hb dX1_order_26 rfl (lv_at hl 0 rfl) ?_
          refine va_get (D := D) (ci := 1) (v := .ref mt) (C := RX1) (T := TX1) (N := 9) hx hb hts hin1 hown hK hP 0 rfl rfl 2 (by decide) f13 (fun _ h9 => h9) rfl dX1_order_27 ?_
          refine lv_iload_n hx hb dX1_order_30 rfl (lv_at hl 1 rfl) ?_
          refine rn_ald (v := nI (S u)) hx hb hK hP 2 0 rfl hty (by have := hM.2.2.2.2.2; omega) (by decide) ((hM.2.1 u (by omega) (by omega)).1) dX1_order_31 ?_
          refine lv_iload_n hx hb dX1_order_32 rfl (lv_at hl 3 rfl) ?_
          refine rn_iadd hx hb dX1_order_33 ?_
          refine rn_ald (v := sg (S u + i)) hx hb hK hP 1 0 rfl hty (by omega) (by decide) (rfl) dX1_order_34 ?_
          refine lv_aload_n hx hb dX1_order_35 rfl (lv_at hl 0 rfl) ?_
          refine va_get (D := D) (ci := 1) (v := .ref ms) (C := RX1) (T := TX1) (N := 9) hx hb hts hin1 hown hK hP 0 rfl rfl 0 (by decide) f7 (fun _ h9 => h9) rfl dX1_order_36 ?_
          refine lv_aload_n hx hb dX1_order_39 rfl (lv_at hl 0 rfl) ?_
          refine va_get (D := D) (ci := 1) (v := .ref mt) (C := RX1) (T := TX1) (N := 9) hx hb hts hin1 hown hK hP 0 rfl rfl 2 (by decide) f13 (fun _ h9 => h9) rfl dX1_order_40 ?_
          refine lv_iload_n hx hb dX1_order_43 rfl (lv_at hl 2 rfl) ?_
          refine rn_ald (v := nI (S v)) hx hb hK hP 2 0 rfl hty (by have := hM.2.2.2.2.2; omega) (by decide) ((hM.2.1 v (by omega) (by omega)).1) dX1_order_44 ?_
          refine lv_iload_n hx hb dX1_order_45 rfl (lv_at hl 3 rfl) ?_
          refine rn_iadd hx hb dX1_order_46 ?_
          refine rn_ald (v := sg (S v + i)) hx hb hK hP 1 0 rfl hty (by omega) (by decide) (rfl) dX1_order_47 ?_
          refine lv_icmp_ne (tgt := 58) hx hb dX1_order_48 (by decide) (fun c_48 => ?_) (fun c_48 => ?_)
          · exact tail i ls hi1 hi2 hinv (by first | exact Or.inr (Or.inr c_48) | exact Or.inr (Or.inl c_19) | exact Or.inl c_9) (lv_sub hl [0, 1, 2, 3] rfl)
          · refine lv_iload_n hx hb dX1_order_51 rfl (lv_at hl 3 rfl) ?_
            refine lv_iconst (v := nI 1) hx hb dX1_order_52 (by decide) ?_
            refine rn_iadd hx hb dX1_order_53 ?_
            refine lv_istore_n (lv' := [(3, .int (nI (i + 1))), (0, .ref m0), (1, .int (nI u)), (2, .int (nI v))]) hx hb dX1_order_54 rfl hl (by decide) rfl (fun ls hl => ?_)
            refine lv_goto (tgt := 2) hx hb dX1_order_55 (by decide) ?_
            exact ih (i + 1) ls (by omega) (by omega) (by omega) (fun z h2 => (Nat.lt_or_ge z i).elim (fun q => hinv z q) (fun q => by rw [show z = i by omega]; exact c_48)) (lv_sub hl [1, 2, 3, 0] rfl)
  refine lv_iconst (v := nI 0) hx hb dX1_order_0 (by decide) ?_
  refine lv_istore_n (lv' := [(3, .int (nI 0)), (0, .ref m0), (1, .int (nI u)), (2, .int (nI v))]) hx hb dX1_order_1 rfl hl (by decide) rfl (fun ls hl => ?_)
  exact loop ((S (u + 1) - S u) + 1) 0 ls (by omega) (Nat.zero_le _) (Nat.zero_le _) (fun z h => absurd h (Nat.not_lt_zero z)) (lv_sub hl [1, 2, 3, 0] rfl)
set_option maxHeartbeats 4000000 in
set_option maxRecDepth 100000 in
/-- compare -/
theorem km_compare (l : Launch) (D : va_G) {tys : List (ClassId × FieldType)} {cI : ClassId} (hty : tys[0]? = some (cI, .int)) (m0 ms mt ml md mk : Nat) (wr : va_W) (sg ta le dr so : Nat → Int32) (us rc n sn : Nat) (S : Nat → Nat) (hM : md_S ta le us rc S) (hpos : ∀ k, 1 ≤ k → k ≤ rc → ∀ z, z < S (k + 1) - S k → ¬ sg (S k + z) < 0) (a b : Int32) : Met l yX1_compare wsX1_compare ({ frames := 1, cells := 0, slots := 0, locals := 40 }) (pu_Pc D vwCl (md_W cI m0 ms mt ml md mk wr sg ta le dr so us rc n sn) tys [.ref m0, .int a, .int b]) (vp_Si (fun r => r = sp_compare (cn_rows sg S 1 rc) a b)) 0 0 (fun _ => False) := by
  refine pu_of (cc := cX1_compare) (maxL := 3) (ret := some .int) (own := RX1) (by decide) rfl rfl (Nat.le_of_ble_eq_true rfl) ?_
  intro p e s m below meth c hx hb hr hts hown hlocks hml hP hK ls hl
  have hl : lv_has ls 3 [(0, .ref m0), (1, .int a), (2, .int b)] := hl
  refine lv_aload_n hx hb dX1_compare_0 rfl (lv_at hl 0 rfl) ?_
  refine lv_iload_n hx hb dX1_compare_1 rfl (lv_at hl 1 rfl) ?_
  refine vp_callSi (W.runV (As := [.int a]) (rest := []) ⟨hx, hb, hml, hown, hts⟩ (km_isRow l D hty m0 ms mt ml md mk wr sg ta le dr so us rc n sn hM.2.2.2.2.2 a) (cwV 1 hts gX1_compare_X1_isRow rfl rfl rfl (by decide +kernel) ⟨Nat.le_of_ble_eq_true rfl, Nat.le_of_ble_eq_true rfl⟩) (pu_preV hK hP 0 rfl rfl) rfl rfl hl.1 rfl (lv_room (Nat.le_of_ble_eq_true rfl)) dX1_compare_2 ⟨Nat.zero_le _, Nat.zero_le _⟩) (fun r2 er2 => ?_)
  rcases er2 with ⟨er2, hk_a⟩ | ⟨er2, hk_a⟩
  · subst er2
    obtain ⟨a', h1_a, h2_a, rfl⟩ := hk_a
    have hw_a := cn_row_yes (ch := sg) (md_R hM) h1_a h2_a
    refine lv_if_eq (tgt := 25) hx hb dX1_compare_5 (by decide) (fun c_5 => absurd c_5 (by decide)) (fun c_5 => ?_)
    refine lv_aload_n hx hb dX1_compare_8 rfl (lv_at hl 0 rfl) ?_
    refine lv_iload_n hx hb dX1_compare_9 rfl (lv_at hl 2 rfl) ?_
    refine vp_callSi (W.runV (As := [.int b]) (rest := []) ⟨hx, hb, hml, hown, hts⟩ (km_isRow l D hty m0 ms mt ml md mk wr sg ta le dr so us rc n sn hM.2.2.2.2.2 b) (cwV 1 hts gX1_compare_X1_isRow rfl rfl rfl (by decide +kernel) ⟨Nat.le_of_ble_eq_true rfl, Nat.le_of_ble_eq_true rfl⟩) (pu_preV hK hP 0 rfl rfl) rfl rfl hl.1 rfl (lv_room (Nat.le_of_ble_eq_true rfl)) dX1_compare_10 ⟨Nat.zero_le _, Nat.zero_le _⟩) (fun r10 er10 => ?_)
    rcases er10 with ⟨er10, hk_b⟩ | ⟨er10, hk_b⟩
    · subst er10
      obtain ⟨b', h1_b, h2_b, rfl⟩ := hk_b
      have hw_b := cn_row_yes (ch := sg) (md_R hM) h1_b h2_b
      refine lv_if_eq (tgt := 25) hx hb dX1_compare_13 (by decide) (fun c_13 => absurd c_13 (by decide)) (fun c_13 => ?_)
      refine lv_aload_n hx hb dX1_compare_16 rfl (lv_at hl 0 rfl) ?_
      refine lv_iload_n hx hb dX1_compare_17 rfl (lv_at hl 1 rfl) ?_
      refine lv_iload_n hx hb dX1_compare_18 rfl (lv_at hl 2 rfl) ?_
      refine vp_callSi (W.runV (As := [.int (nI a'), .int (nI b')]) (rest := []) ⟨hx, hb, hml, hown, hts⟩ (km_order l D hty m0 ms mt ml md mk wr sg ta le dr so us rc n sn S hM a' b' h1_a h2_a h1_b h2_b (hpos a' h1_a h2_a) (hpos b' h1_b h2_b)) (cwV 2 hts gX1_compare_X1_order rfl rfl rfl (by decide +kernel) ⟨Nat.le_of_ble_eq_true rfl, Nat.le_of_ble_eq_true rfl⟩) (pu_preV hK hP 0 rfl rfl) rfl rfl hl.1 rfl (lv_room (Nat.le_of_ble_eq_true rfl)) dX1_compare_19 ⟨Nat.zero_le _, Nat.zero_le _⟩) (fun r19 er19 => ?_)
      refine lv_goto (tgt := 27) hx hb dX1_compare_22 (by decide) ?_
      exact pu_iret hx hb hr hlocks (by rw [sp_compare, hw_a, hw_b, er19]) dX1_compare_27
    · subst er10
      have hw_b := cn_row_no (ch := sg) (md_R hM) hk_b
      refine lv_if_eq (tgt := 25) hx hb dX1_compare_13 (by decide) (fun c_13 => ?_) (fun c_13 => absurd c_13 (not_not_intro (by decide)))
      refine lv_bipush (v := (-2)) hx hb dX1_compare_25 (by decide) ?_
      exact pu_iret hx hb hr hlocks (by first | (rw [sp_compare, hw_a]; done) | (rw [sp_compare, hw_a, hw_b]; done)) dX1_compare_27
  · subst er2
    have hw_a := cn_row_no (ch := sg) (md_R hM) hk_a
    refine lv_if_eq (tgt := 25) hx hb dX1_compare_5 (by decide) (fun c_5 => ?_) (fun c_5 => absurd c_5 (not_not_intro (by decide)))
    refine lv_bipush (v := (-2)) hx hb dX1_compare_25 (by decide) ?_
    exact pu_iret hx hb hr hlocks (by first | (rw [sp_compare, hw_a]; done) | (rw [sp_compare, hw_a, hw_b]; done)) dX1_compare_27
