set_option maxHeartbeats 4000000 in
set_option maxRecDepth 100000 in
/-- next -/
theorem km_next (l : Launch) (D : va_G) {tys : List (ClassId × FieldType)} {cI : ClassId} (hty : tys[0]? = some (cI, .int)) (m0 ms mt ml md mk : Nat) (wr : va_W) (sg ta le dr so : Nat → Int32) (us rc n sn : Nat) (S : Nat → Nat) (hM : md_S ta le us rc S) (hpos : ∀ k, 1 ≤ k → k ≤ rc → ∀ z, z < S (k + 1) - S k → ¬ sg (S k + z) < 0) (k : Int32) : Met l yX1_next wsX1_next ({ frames := 1, cells := 0, slots := 0, locals := 40 }) (pu_Pc D vwCl (md_W cI m0 ms mt ml md mk wr sg ta le dr so us rc n sn) tys [.ref m0, .int k]) (vp_Si (fun r => r = sp_next (cn_rows sg S 1 rc) k)) 0 0 (fun _ => False) := by
  refine pu_of (cc := cX1_next) (maxL := 4) (ret := some .int) (own := RX1) (by decide) rfl rfl (Nat.le_of_ble_eq_true rfl) ?_
  intro p e s m below meth c hx hb hr hts hown hlocks hml hP hK ls hl
  have hl : lv_has ls 4 [(0, .ref m0), (1, .int k)] := hl
  have hin1 : ∀ w ∈ u_ws RX1 TX1 9, w ∈ wsX1_next := by decide +kernel
  have f30 := hts (.fieldLink RX1 30 "NameNumbersModel" "rows" "I") (by decide +kernel)
  refine lv_aload_n hx hb dX1_next_0 rfl (lv_at hl 0 rfl) ?_
  refine lv_iload_n hx hb dX1_next_1 rfl (lv_at hl 1 rfl) ?_
  refine vp_callSi (W.runV (As := [.int k]) (rest := []) ⟨hx, hb, hml, hown, hts⟩ (km_isRow l D hty m0 ms mt ml md mk wr sg ta le dr so us rc n sn hM.2.2.2.2.2 k) (cwV 1 hts gX1_next_X1_isRow rfl rfl rfl (by decide +kernel) ⟨Nat.le_of_ble_eq_true rfl, Nat.le_of_ble_eq_true rfl⟩) (pu_preV hK hP 0 rfl rfl) rfl rfl hl.1 rfl (lv_room (Nat.le_of_ble_eq_true rfl)) dX1_next_2 ⟨Nat.zero_le _, Nat.zero_le _⟩) (fun r2 er2 => ?_)
  rcases er2 with ⟨er2, hk_k⟩ | ⟨er2, hk_k⟩
  · subst er2
    obtain ⟨k', h1_k, h2_k, rfl⟩ := hk_k
    have hw_k := cn_row_yes (ch := sg) (md_R hM) h1_k h2_k
    refine lv_if_ne (tgt := 10) hx hb dX1_next_5 (by decide) (fun c_5 => ?_) (fun c_5 => absurd c_5 (by decide))
    refine lv_iconst (v := nI 0) hx hb dX1_next_10 (by decide) ?_
    refine lv_istore_n (lv' := [(2, .int (nI 0)), (0, .ref m0), (1, .int (nI k'))]) hx hb dX1_next_11 rfl hl (by decide) rfl (fun ls hl => ?_)
    refine lv_iconst (v := nI 1) hx hb dX1_next_12 (by decide) ?_
    refine lv_istore_n (lv' := [(3, .int (nI 1)), (2, .int (nI 0)), (0, .ref m0), (1, .int (nI k'))]) hx hb dX1_next_13 rfl hl (by decide) rfl (fun ls hl => ?_)
    have hrc := hM.2.2.2.2.2
    have loop : ∀ (j : Nat) (o : Nat) (b : Nat) (ls : Array Slot), rc + 2 ≤ o + j → 1 ≤ o → o ≤ rc + 1 → b ≤ rc → sp_nx (cn_rows sg S 1 rc) (cn_row sg S k') (cn_rows sg S 1 rc) 1 0 = sp_nx (cn_rows sg S 1 rc) (cn_row sg S k') (cn_rows sg S o (rc + 1 - o)) o b → lv_has ls 4 [(0, .ref m0), (1, .int (nI k')), (2, .int (nI b)), (3, .int (nI o))] → W p l e { frames := 1, cells := 0, slots := 0, locals := 40 } s m [.ref m0, .int (nI k')].toArray below meth c s.heap [] 0 0 (MQ below (vp_Si (fun r => r = sp_next (cn_rows sg S 1 rc) (nI k'))) [.ref m0, .int (nI k')].toArray s 0 0 (fun _ => False)) (F0 m 14 ls []) := by
      intro j
      induction j with
      | zero => intro o b ls hj hk1 hk2 hbb hinv hl; exfalso; omega
      | succ j ih =>
        intro o b ls hj hk1 hk2 hbb hinv hl
        refine lv_iload_n hx hb dX1_next_14 rfl (lv_at hl 3 rfl) ?_
        refine lv_aload_n hx hb dX1_next_15 rfl (lv_at hl 0 rfl) ?_
        refine va_get (D := D) (ci := 1) (v := .int (nI rc)) (C := RX1) (T := TX1) (N := 9) hx hb hts hin1 hown hK hP 0 rfl rfl 4 (by decide) f30 (fun _ h9 => h9) rfl dX1_next_16 ?_
        refine rn_icmp_gt (tgt := 56) hx hb (by have := hM.2.2.2.2.2; omega) (by have := hM.2.2.2.2.2; omega) dX1_next_19 (by decide) (fun c_19 => ?_) (fun c_19 => ?_)
        · refine lv_iload_n hx hb dX1_next_56 rfl (lv_at hl 2 rfl) ?_
          exact pu_iret hx hb hr hlocks (by rw [sp_next, hw_k]; show nI b = nI (sp_nx _ _ _ 1 0); rw [cn_nx_end c_19 hinv]) dX1_next_57
        · refine lv_aload_n hx hb dX1_next_22 rfl (lv_at hl 0 rfl) ?_
          refine lv_iload_n hx hb dX1_next_23 rfl (lv_at hl 3 rfl) ?_
          refine lv_iload_n hx hb dX1_next_24 rfl (lv_at hl 1 rfl) ?_
          refine vp_callSi (W.runV (As := [.int (nI o), .int (nI k')]) (rest := []) ⟨hx, hb, hml, hown, hts⟩ (km_order l D hty m0 ms mt ml md mk wr sg ta le dr so us rc n sn S hM o k' hk1 (by omega) h1_k h2_k (hpos o hk1 (by omega)) (hpos k' h1_k h2_k)) (cwV 2 hts gX1_next_X1_order rfl rfl rfl (by decide +kernel) ⟨Nat.le_of_ble_eq_true rfl, Nat.le_of_ble_eq_true rfl⟩) (pu_preV hK hP 0 rfl rfl) rfl rfl hl.1 rfl (lv_room (Nat.le_of_ble_eq_true rfl)) dX1_next_25 ⟨Nat.zero_le _, Nat.zero_le _⟩) (fun r25 er25 => ?_)
          refine lv_if_le (tgt := 48) hx hb dX1_next_28 (by decide) (fun c_28 => ?_) (fun c_28 => ?_)
          · refine lv_iload_n hx hb dX1_next_48 rfl (lv_at hl 2 rfl) ?_
            refine lv_istore_n (lv' := [(2, .int (nI b)), (0, .ref m0), (1, .int (nI k')), (3, .int (nI o))]) hx hb dX1_next_49 rfl hl (by decide) rfl (fun ls hl => ?_)
            refine rn_iinc (n := 1) (lv' := [(3, .int (nI (o + 1))), (2, .int (nI b)), (0, .ref m0), (1, .int (nI k'))]) hx hb dX1_next_50 hl (k := 3) rfl (by decide) rfl (fun ls hl => ?_)
            refine lv_goto (tgt := 14) hx hb dX1_next_53 (by decide) ?_
            exact ih (o + 1) b ls (by omega) (by omega) (by omega) hbb (by first | exact cn_nx_a (by omega) hinv (by rw [← er25]; exact c_28) | exact cn_nx_b (by omega) hinv (Nat.one_le_iff_ne_zero.mpr (fun q => c_32 (by rw [q]; rfl))) hbb (by rw [← er38]; exact c_41)) (lv_sub hl [2, 3, 1, 0] rfl)
          · refine lv_iload_n hx hb dX1_next_31 rfl (lv_at hl 2 rfl) ?_
            refine lv_if_eq (tgt := 44) hx hb dX1_next_32 (by decide) (fun c_32 => ?_) (fun c_32 => ?_)
            · refine lv_iload_n hx hb dX1_next_44 rfl (lv_at hl 3 rfl) ?_
              refine lv_goto (tgt := 49) hx hb dX1_next_45 (by decide) ?_
              refine lv_istore_n (lv' := [(2, .int (nI o)), (0, .ref m0), (1, .int (nI k')), (3, .int (nI o))]) hx hb dX1_next_49 rfl hl (by decide) rfl (fun ls hl => ?_)
              refine rn_iinc (n := 1) (lv' := [(3, .int (nI (o + 1))), (2, .int (nI o)), (0, .ref m0), (1, .int (nI k'))]) hx hb dX1_next_50 hl (k := 3) rfl (by decide) rfl (fun ls hl => ?_)
              refine lv_goto (tgt := 14) hx hb dX1_next_53 (by decide) ?_
              exact ih (o + 1) o ls (by omega) (by omega) (by omega) (by omega) (by first | exact cn_nx_d (by omega) hinv (by rw [← er25]; exact c_28) (Nat.one_le_iff_ne_zero.mpr (fun q => c_32 (by rw [q]; rfl))) hbb (by rw [← er38]; exact c_41) | exact cn_nx_c (by omega) hinv (by rw [← er25]; exact c_28) (sp_nI0 (by omega) c_32)) (lv_sub hl [2, 3, 1, 0] rfl)
            · refine lv_aload_n hx hb dX1_next_35 rfl (lv_at hl 0 rfl) ?_
              refine lv_iload_n hx hb dX1_next_36 rfl (lv_at hl 3 rfl) ?_
              refine lv_iload_n hx hb dX1_next_37 rfl (lv_at hl 2 rfl) ?_
              refine vp_callSi (W.runV (As := [.int (nI o), .int (nI b)]) (rest := []) ⟨hx, hb, hml, hown, hts⟩ (km_order l D hty m0 ms mt ml md mk wr sg ta le dr so us rc n sn S hM o b hk1 (by omega) (Nat.one_le_iff_ne_zero.mpr (fun q => c_32 (by rw [q]; rfl))) hbb (hpos o hk1 (by omega)) (hpos b (Nat.one_le_iff_ne_zero.mpr (fun q => c_32 (by rw [q]; rfl))) hbb)) (cwV 2 hts gX1_next_X1_order rfl rfl rfl (by decide +kernel) ⟨Nat.le_of_ble_eq_true rfl, Nat.le_of_ble_eq_true rfl⟩) (pu_preV hK hP 0 rfl rfl) rfl rfl hl.1 rfl (lv_room (Nat.le_of_ble_eq_true rfl)) dX1_next_38 ⟨Nat.zero_le _, Nat.zero_le _⟩) (fun r38 er38 => ?_)
              refine lv_if_ge (tgt := 48) hx hb dX1_next_41 (by decide) (fun c_41 => ?_) (fun c_41 => ?_)
              · refine lv_iload_n hx hb dX1_next_48 rfl (lv_at hl 2 rfl) ?_
                refine lv_istore_n (lv' := [(2, .int (nI b)), (0, .ref m0), (1, .int (nI k')), (3, .int (nI o))]) hx hb dX1_next_49 rfl hl (by decide) rfl (fun ls hl => ?_)
                refine rn_iinc (n := 1) (lv' := [(3, .int (nI (o + 1))), (2, .int (nI b)), (0, .ref m0), (1, .int (nI k'))]) hx hb dX1_next_50 hl (k := 3) rfl (by decide) rfl (fun ls hl => ?_)
                refine lv_goto (tgt := 14) hx hb dX1_next_53 (by decide) ?_
                exact ih (o + 1) b ls (by omega) (by omega) (by omega) hbb (by first | exact cn_nx_a (by omega) hinv (by rw [← er25]; exact c_28) | exact cn_nx_b (by omega) hinv (Nat.one_le_iff_ne_zero.mpr (fun q => c_32 (by rw [q]; rfl))) hbb (by rw [← er38]; exact c_41)) (lv_sub hl [2, 3, 1, 0] rfl)
              · refine lv_iload_n hx hb dX1_next_44 rfl (lv_at hl 3 rfl) ?_
                refine lv_goto (tgt := 49) hx hb dX1_next_45 (by decide) ?_
                refine lv_istore_n (lv' := [(2, .int (nI o)), (0, .ref m0), (1, .int (nI k')), (3, .int (nI o))]) hx hb dX1_next_49 rfl hl (by decide) rfl (fun ls hl => ?_)
                refine rn_iinc (n := 1) (lv' := [(3, .int (nI (o + 1))), (2, .int (nI o)), (0, .ref m0), (1, .int (nI k'))]) hx hb dX1_next_50 hl (k := 3) rfl (by decide) rfl (fun ls hl => ?_)
                refine lv_goto (tgt := 14) hx hb dX1_next_53 (by decide) ?_
                exact ih (o + 1) o ls (by omega) (by omega) (by omega) (by omega) (by first | exact cn_nx_d (by omega) hinv (by rw [← er25]; exact c_28) (Nat.one_le_iff_ne_zero.mpr (fun q => c_32 (by rw [q]; rfl))) hbb (by rw [← er38]; exact c_41) | exact cn_nx_c (by omega) hinv (by rw [← er25]; exact c_28) (sp_nI0 (by omega) c_32)) (lv_sub hl [2, 3, 1, 0] rfl)
    exact loop (rc + 2) 1 0 ls (by omega) (Nat.le_refl 1) (by omega) (Nat.zero_le _) rfl (lv_sub hl [2, 3, 1, 0] rfl)
  · subst er2
    have hw_k := cn_row_no (ch := sg) (md_R hM) hk_k
    refine lv_if_ne (tgt := 10) hx hb dX1_next_5 (by decide) (fun c_5 => absurd c_5 (not_not_intro (by decide))) (fun c_5 => ?_)
    refine lv_iconst (v := (-1)) hx hb dX1_next_8 (by decide) ?_
    exact pu_iret hx hb hr hlocks (by rw [sp_next, hw_k]) dX1_next_9
set_option maxHeartbeats 4000000 in
set_option maxRecDepth 100000 in
/-- find -/
theorem km_find (l : Launch) (D : va_G) {tys : List (ClassId × FieldType)} {cI : ClassId} (hty : tys[0]? = some (cI, .int)) (m0 ms mt ml md mk : Nat) (wr : va_W) (sg ta le dr so : Nat → Int32) (us rc n sn : Nat) (S : Nat → Nat) (hM : md_S ta le us rc S) (hsn : sn ≤ 20000) : Met l yX1_find wsX1_find ({ frames := 0, cells := 0, slots := 0, locals := 0 }) (pu_Pc D vwCl (md_W cI m0 ms mt ml md mk wr sg ta le dr so us rc n sn) tys [.ref m0]) (vp_Si (fun r => r = md_an (sp_fd (sp_sl so 0 sn) (cn_rows sg S 1 rc) 1))) 0 0 (fun _ => False) := by
  refine pu_of (cc := cX1_find) (maxL := 5) (ret := some .int) (own := RX1) (by decide) rfl rfl (Nat.le_of_ble_eq_true rfl) ?_
  intro p e s m below meth c hx hb hr hts hown hlocks hml hP hK ls hl
  have hl : lv_has ls 5 [(0, .ref m0)] := hl
  have hin1 : ∀ w ∈ u_ws RX1 TX1 9, w ∈ wsX1_find := by decide +kernel
  have f7 := hts (.fieldLink RX1 7 "NameNumbersModel" "signs" "[I") (by decide +kernel)
  have f13 := hts (.fieldLink RX1 13 "NameNumbersModel" "starts" "[I") (by decide +kernel)
  have f16 := hts (.fieldLink RX1 16 "NameNumbersModel" "lengths" "[I") (by decide +kernel)
  have f22 := hts (.fieldLink RX1 22 "NameNumbersModel" "sought" "[I") (by decide +kernel)
  have f30 := hts (.fieldLink RX1 30 "NameNumbersModel" "rows" "I") (by decide +kernel)
  have f33 := hts (.fieldLink RX1 33 "NameNumbersModel" "soughtLength" "I") (by decide +kernel)
  have hrc := hM.2.2.2.2.2
  have found : ∀ (fo k : Nat) (ls : Array Slot), 1 ≤ fo → fo ≤ rc → k ≤ rc + 1 → sp_fd (sp_sl so 0 sn) (cn_rows sg S 1 rc) 1 = some fo → lv_has ls 5 [(0, .ref m0), (1, .int (nI fo)), (2, .int (nI k))] → W p l e { frames := 0, cells := 0, slots := 0, locals := 0 } s m [.ref m0].toArray below meth c s.heap [] 0 0 (MQ below (vp_Si (fun r => r = md_an (sp_fd (sp_sl so 0 sn) (cn_rows sg S 1 rc) 1))) [.ref m0].toArray s 0 0 (fun _ => False)) (F0 m 4 ls []) := by
    intro fo k ls hf1 hf2 hk hF hl
    refine lv_iload_n hx hb dX1_find_4 rfl (lv_at hl 2 rfl) ?_
    refine lv_aload_n hx hb dX1_find_5 rfl (lv_at hl 0 rfl) ?_
    refine va_get (D := D) (ci := 1) (v := .int (nI rc)) (C := RX1) (T := TX1) (N := 9) hx hb hts hin1 hown hK hP 0 rfl rfl 4 (by decide) f30 (fun _ h9 => h9) rfl dX1_find_6 ?_
    refine rn_icmp_gt (tgt := 103) hx hb (by have := hM.2.2.2.2.2; omega) (by have := hM.2.2.2.2.2; omega) dX1_find_9 (by decide) (fun c_9 => ?_) (fun c_9 => ?_)
    · refine lv_iload_n hx hb dX1_find_103 rfl (lv_at hl 1 rfl) ?_
      exact pu_iret hx hb hr hlocks (by rw [hF]; rfl) dX1_find_104
    · refine lv_iload_n hx hb dX1_find_12 rfl (lv_at hl 1 rfl) ?_
      refine lv_if_ne (tgt := 103) hx hb dX1_find_13 (by decide) (fun c_13 => ?_) (fun c_13 => absurd c_13 (fun z => nI_ne0 (by omega) (by omega) z))
      refine lv_iload_n hx hb dX1_find_103 rfl (lv_at hl 1 rfl) ?_
      exact pu_iret hx hb hr hlocks (by rw [hF]; rfl) dX1_find_104
  have loop : ∀ (j : Nat) (k : Nat) (ls : Array Slot), rc + 2 ≤ k + j → 1 ≤ k → k ≤ rc + 1 → sp_fd (sp_sl so 0 sn) (cn_rows sg S 1 rc) 1 = sp_fd (sp_sl so 0 sn) (cn_rows sg S k (rc + 1 - k)) k → lv_has ls 5 [(0, .ref m0), (1, .int (nI 0)), (2, .int (nI k))] → W p l e { frames := 0, cells := 0, slots := 0, locals := 0 } s m [.ref m0].toArray below meth c s.heap [] 0 0 (MQ below (vp_Si (fun r => r = md_an (sp_fd (sp_sl so 0 sn) (cn_rows sg S 1 rc) 1))) [.ref m0].toArray s 0 0 (fun _ => False)) (F0 m 4 ls []) := by
    intro j
    induction j with
    | zero => intro k ls hj hk1 hk2 hinv hl; exfalso; omega
    | succ j ih =>
      intro k ls hj hk1 hk2 hinv hl
      refine lv_iload_n hx hb dX1_find_4 rfl (lv_at hl 2 rfl) ?_
      refine lv_aload_n hx hb dX1_find_5 rfl (lv_at hl 0 rfl) ?_
      refine va_get (D := D) (ci := 1) (v := .int (nI rc)) (C := RX1) (T := TX1) (N := 9) hx hb hts hin1 hown hK hP 0 rfl rfl 4 (by decide) f30 (fun _ h9 => h9) rfl dX1_find_6 ?_
      refine rn_icmp_gt (tgt := 103) hx hb (by have := hM.2.2.2.2.2; omega) (by have := hM.2.2.2.2.2; omega) dX1_find_9 (by decide) (fun c_9 => ?_) (fun c_9 => ?_)
      · refine lv_iload_n hx hb dX1_find_103 rfl (lv_at hl 1 rfl) ?_
        exact pu_iret hx hb hr hlocks (by rw [md_fd_end (by omega) hinv]; rfl) dX1_find_104
      · refine lv_iload_n hx hb dX1_find_12 rfl (lv_at hl 1 rfl) ?_
        refine lv_if_ne (tgt := 103) hx hb dX1_find_13 (by decide) (fun c_13 => absurd c_13 (not_not_intro (by decide))) (fun c_13 => ?_)
        have hlk := hM.2.2.1 k hk1 c_9
        have htk := cn_top (md_R hM) (k := k + 1) (by omega) (by omega)
        have zero : ∀ (i : Nat) (ls : Array Slot), ¬ cn_row sg S k = (sp_sl so 0 sn) → i ≤ sn → lv_has ls 5 [(0, .ref m0), (1, .int (nI 0)), (2, .int (nI k)), (3, .int (nI 0)), (4, .int (nI i))] → W p l e { frames := 0, cells := 0, slots := 0, locals := 0 } s m [.ref m0].toArray below meth c s.heap [] 0 0 (MQ below (vp_Si (fun r => r = md_an (sp_fd (sp_sl so 0 sn) (cn_rows sg S 1 rc) 1))) [.ref m0].toArray s 0 0 (fun _ => False)) (F0 m 38 ls []) := by
          intro i ls hne hi hl
          refine lv_iload hx hb dX1_find_38 (lv_at hl 4 rfl) ?_
          refine lv_aload_n hx hb dX1_find_40 rfl (lv_at hl 0 rfl) ?_
          refine va_get (D := D) (ci := 1) (v := .int (nI sn)) (C := RX1) (T := TX1) (N := 9) hx hb hts hin1 hown hK hP 0 rfl rfl 8 (by decide) f33 (fun _ h9 => h9) rfl dX1_find_41 ?_
          refine rn_icmp_ge (tgt := 87) hx hb (by omega) (by omega) dX1_find_44 (by decide) (fun c_44 => ?_) (fun c_44 => ?_)
          · refine lv_iload_n hx hb dX1_find_87 rfl (lv_at hl 3 rfl) ?_
            refine lv_if_eq (tgt := 95) hx hb dX1_find_88 (by decide) (fun c_88 => ?_) (fun c_88 => absurd c_88 (not_not_intro (by decide)))
            refine lv_iconst (v := nI 0) hx hb dX1_find_95 (by decide) ?_
            refine lv_istore_n (lv' := [(1, .int (nI 0)), (0, .ref m0), (2, .int (nI k)), (3, .int (nI 0)), (4, .int (nI i))]) hx hb dX1_find_96 rfl hl (by decide) rfl (fun ls hl => ?_)
            refine rn_iinc (n := 1) (lv' := [(2, .int (nI (k + 1))), (1, .int (nI 0)), (0, .ref m0), (3, .int (nI 0)), (4, .int (nI i))]) hx hb dX1_find_97 hl (k := 2) rfl (by decide) rfl (fun ls hl => ?_)
            refine lv_goto (tgt := 4) hx hb dX1_find_100 (by decide) ?_
            exact ih (k + 1) ls (by omega) (by omega) (by omega) (cn_fd_miss c_9 hinv hne) (lv_sub hl [2, 1, 0] rfl)
          · refine lv_iload_n hx hb dX1_find_47 rfl (lv_at hl 3 rfl) ?_
            refine lv_if_eq (tgt := 87) hx hb dX1_find_48 (by decide) (fun c_48 => ?_) (fun c_48 => absurd c_48 (not_not_intro (by decide)))
            refine lv_iload_n hx hb dX1_find_87 rfl (lv_at hl 3 rfl) ?_
            refine lv_if_eq (tgt := 95) hx hb dX1_find_88 (by decide) (fun c_88 => ?_) (fun c_88 => absurd c_88 (not_not_intro (by decide)))
            refine lv_iconst (v := nI 0) hx hb dX1_find_95 (by decide) ?_
            refine lv_istore_n (lv' := [(1, .int (nI 0)), (0, .ref m0), (2, .int (nI k)), (3, .int (nI 0)), (4, .int (nI i))]) hx hb dX1_find_96 rfl hl (by decide) rfl (fun ls hl => ?_)
            refine rn_iinc (n := 1) (lv' := [(2, .int (nI (k + 1))), (1, .int (nI 0)), (0, .ref m0), (3, .int (nI 0)), (4, .int (nI i))]) hx hb dX1_find_97 hl (k := 2) rfl (by decide) rfl (fun ls hl => ?_)
            refine lv_goto (tgt := 4) hx hb dX1_find_100 (by decide) ?_
            exact ih (k + 1) ls (by omega) (by omega) (by omega) (cn_fd_miss c_9 hinv hne) (lv_sub hl [2, 1, 0] rfl)
        have one : ∀ (j2 i : Nat) (ls : Array Slot), sn + 1 ≤ i + j2 → i ≤ sn → S (k + 1) - S k = sn → (∀ z, z < i → sg (S k + z) = so z) → lv_has ls 5 [(0, .ref m0), (1, .int (nI 0)), (2, .int (nI k)), (3, .int (nI 1)), (4, .int (nI i))] → W p l e { frames := 0, cells := 0, slots := 0, locals := 0 } s m [.ref m0].toArray below meth c s.heap [] 0 0 (MQ below (vp_Si (fun r => r = md_an (sp_fd (sp_sl so 0 sn) (cn_rows sg S 1 rc) 1))) [.ref m0].toArray s 0 0 (fun _ => False)) (F0 m 38 ls []) := by
          intro j2
          induction j2 with
          | zero => intro i ls hj2 hi hlen hin hl; exfalso; omega
          | succ j2 ih2 =>
            intro i ls hj2 hi hlen hin hl
            refine lv_iload hx hb dX1_find_38 (lv_at hl 4 rfl) ?_
            refine lv_aload_n hx hb dX1_find_40 rfl (lv_at hl 0 rfl) ?_
            refine va_get (D := D) (ci := 1) (v := .int (nI sn)) (C := RX1) (T := TX1) (N := 9) hx hb hts hin1 hown hK hP 0 rfl rfl 8 (by decide) f33 (fun _ h9 => h9) rfl dX1_find_41 ?_
            refine rn_icmp_ge (tgt := 87) hx hb (by omega) (by omega) dX1_find_44 (by decide) (fun c_44 => ?_) (fun c_44 => ?_)
            · refine lv_iload_n hx hb dX1_find_87 rfl (lv_at hl 3 rfl) ?_
              refine lv_if_eq (tgt := 95) hx hb dX1_find_88 (by decide) (fun c_88 => absurd c_88 (by decide)) (fun c_88 => ?_)
              refine lv_iload_n hx hb dX1_find_91 rfl (lv_at hl 2 rfl) ?_
              refine lv_goto (tgt := 96) hx hb dX1_find_92 (by decide) ?_
              refine lv_istore_n (lv' := [(1, .int (nI k)), (0, .ref m0), (2, .int (nI k)), (3, .int (nI 1)), (4, .int (nI i))]) hx hb dX1_find_96 rfl hl (by decide) rfl (fun ls hl => ?_)
              refine rn_iinc (n := 1) (lv' := [(2, .int (nI (k + 1))), (1, .int (nI k)), (0, .ref m0), (3, .int (nI 1)), (4, .int (nI i))]) hx hb dX1_find_97 hl (k := 2) rfl (by decide) rfl (fun ls hl => ?_)
              refine lv_goto (tgt := 4) hx hb dX1_find_100 (by decide) ?_
              exact found k (k + 1) ls hk1 c_9 (by omega) (md_fd_hit c_9 hinv (by rw [cn_row, hlen, show sn = i by omega]; exact sp_ext (fun z hz => by rw [Nat.zero_add]; exact hin z hz))) (lv_sub hl [2, 1, 0] rfl)
            · refine lv_iload_n hx hb dX1_find_47 rfl (lv_at hl 3 rfl) ?_
              refine lv_if_eq (tgt := 87) hx hb dX1_find_48 (by decide) (fun c_48 => absurd c_48 (by decide)) (fun c_48 => ?_)
              refine lv_aload_n hx hb dX1_find_51 rfl (lv_at hl 0 rfl) ?_
              refine va_get (D := D) (ci := 1) (v := .ref ms) (C := RX1) (T := TX1) (N := 9) hx hb hts hin1 hown hK hP 0 rfl rfl 0 (by decide) f7 (fun _ h9 => h9) rfl dX1_find_52 ?_
              refine lv_aload_n hx hb dX1_find_55 rfl (lv_at hl 0 rfl) ?_
              refine va_get (D := D) (ci := 1) (v := .ref mt) (C := RX1) (T := TX1) (N := 9) hx hb hts hin1 hown hK hP 0 rfl rfl 2 (by decide) f13 (fun _ h9 => h9) rfl dX1_find_56 ?_
              refine lv_iload_n hx hb dX1_find_59 rfl (lv_at hl 2 rfl) ?_
              refine rn_ald (v := nI (S k)) hx hb hK hP 2 0 rfl hty (by have := hM.2.2.2.2.2; omega) (by decide) ((hM.2.1 k (by omega) (by omega)).1) dX1_find_60 ?_
              refine lv_iload hx hb dX1_find_61 (lv_at hl 4 rfl) ?_
              refine rn_iadd hx hb dX1_find_63 ?_
              refine rn_ald (v := sg (S k + i)) hx hb hK hP 1 0 rfl hty (by omega) (by decide) (rfl) dX1_find_64 ?_
              refine lv_aload_n hx hb dX1_find_65 rfl (lv_at hl 0 rfl) ?_
              refine va_get (D := D) (ci := 1) (v := .ref mk) (C := RX1) (T := TX1) (N := 9) hx hb hts hin1 hown hK hP 0 rfl rfl 7 (by decide) f22 (fun _ h9 => h9) rfl dX1_find_66 ?_
              refine lv_iload hx hb dX1_find_69 (lv_at hl 4 rfl) ?_
              refine rn_ald (v := so i) hx hb hK hP 5 0 rfl hty (by omega) (by decide) (rfl) dX1_find_71 ?_
              refine lv_icmp_ne (tgt := 79) hx hb dX1_find_72 (by decide) (fun c_72 => ?_) (fun c_72 => ?_)
              · refine lv_iconst (v := nI 0) hx hb dX1_find_79 (by decide) ?_
                refine lv_istore_n (lv' := [(3, .int (nI 0)), (0, .ref m0), (1, .int (nI 0)), (2, .int (nI k)), (4, .int (nI i))]) hx hb dX1_find_80 rfl hl (by decide) rfl (fun ls hl => ?_)
                refine rn_iinc (n := 1) (lv' := [(4, .int (nI (i + 1))), (3, .int (nI 0)), (0, .ref m0), (1, .int (nI 0)), (2, .int (nI k))]) hx hb dX1_find_81 hl (k := 4) rfl (by decide) rfl (fun ls hl => ?_)
                refine lv_goto (tgt := 38) hx hb dX1_find_84 (by decide) ?_
                exact zero (i + 1) ls (md_ne hlen (by omega) c_72) (by omega) (lv_sub hl [2, 3, 4, 1, 0] rfl)
              · refine lv_iconst (v := nI 1) hx hb dX1_find_75 (by decide) ?_
                refine lv_goto (tgt := 80) hx hb dX1_find_76 (by decide) ?_
                refine lv_istore_n (lv' := [(3, .int (nI 1)), (0, .ref m0), (1, .int (nI 0)), (2, .int (nI k)), (4, .int (nI i))]) hx hb dX1_find_80 rfl hl (by decide) rfl (fun ls hl => ?_)
                refine rn_iinc (n := 1) (lv' := [(4, .int (nI (i + 1))), (3, .int (nI 1)), (0, .ref m0), (1, .int (nI 0)), (2, .int (nI k))]) hx hb dX1_find_81 hl (k := 4) rfl (by decide) rfl (fun ls hl => ?_)
                refine lv_goto (tgt := 38) hx hb dX1_find_84 (by decide) ?_
                exact ih2 (i + 1) ls (by omega) (by omega) hlen (fun z h2 => (Nat.lt_or_ge z i).elim (fun q => hin z q) (fun q => by rw [show z = i by omega]; exact c_72)) (lv_sub hl [2, 3, 4, 1, 0] rfl)
        refine lv_aload_n hx hb dX1_find_16 rfl (lv_at hl 0 rfl) ?_
        refine va_get (D := D) (ci := 1) (v := .ref ml) (C := RX1) (T := TX1) (N := 9) hx hb hts hin1 hown hK hP 0 rfl rfl 3 (by decide) f16 (fun _ h9 => h9) rfl dX1_find_17 ?_
        refine lv_iload_n hx hb dX1_find_20 rfl (lv_at hl 2 rfl) ?_
        refine rn_ald (v := nI (S (k + 1) - S k)) hx hb hK hP 3 0 rfl hty (by have := hM.2.2.2.2.2; omega) (by decide) ((hM.2.1 k (by omega) (by omega)).2) dX1_find_21 ?_
        refine lv_aload_n hx hb dX1_find_22 rfl (lv_at hl 0 rfl) ?_
        refine va_get (D := D) (ci := 1) (v := .int (nI sn)) (C := RX1) (T := TX1) (N := 9) hx hb hts hin1 hown hK hP 0 rfl rfl 8 (by decide) f33 (fun _ h9 => h9) rfl dX1_find_23 ?_
        refine rn_icmp_ne (tgt := 33) hx hb (by omega) (by omega) dX1_find_26 (by decide) (fun c_26 => ?_) (fun c_26 => ?_)
        · refine lv_iconst (v := nI 0) hx hb dX1_find_33 (by decide) ?_
          refine lv_istore_n (lv' := [(3, .int (nI 0)), (0, .ref m0), (1, .int (nI 0)), (2, .int (nI k))]) hx hb dX1_find_34 rfl hl (by decide) rfl (fun ls hl => ?_)
          refine lv_iconst (v := nI 0) hx hb dX1_find_35 (by decide) ?_
          refine lv_istore (lv' := [(4, .int (nI 0)), (3, .int (nI 0)), (0, .ref m0), (1, .int (nI 0)), (2, .int (nI k))]) hx hb dX1_find_36 hl (by decide) rfl (fun ls hl => ?_)
          exact zero 0 ls (fun q => c_26 (by have := congrArg List.length q; rw [cn_row, sp_len, sp_len] at this; exact this)) (by omega) (lv_sub hl [2, 3, 4, 1, 0] rfl)
        · refine lv_iconst (v := nI 1) hx hb dX1_find_29 (by decide) ?_
          refine lv_goto (tgt := 34) hx hb dX1_find_30 (by decide) ?_
          refine lv_istore_n (lv' := [(3, .int (nI 1)), (0, .ref m0), (1, .int (nI 0)), (2, .int (nI k))]) hx hb dX1_find_34 rfl hl (by decide) rfl (fun ls hl => ?_)
          refine lv_iconst (v := nI 0) hx hb dX1_find_35 (by decide) ?_
          refine lv_istore (lv' := [(4, .int (nI 0)), (3, .int (nI 1)), (0, .ref m0), (1, .int (nI 0)), (2, .int (nI k))]) hx hb dX1_find_36 hl (by decide) rfl (fun ls hl => ?_)
          exact one (sn + 1) 0 ls (by omega) (Nat.zero_le _) c_26 (fun z h => absurd h (Nat.not_lt_zero z)) (lv_sub hl [2, 3, 4, 1, 0] rfl)
  refine lv_iconst (v := nI 0) hx hb dX1_find_0 (by decide) ?_
  refine lv_istore_n (lv' := [(1, .int (nI 0)), (0, .ref m0)]) hx hb dX1_find_1 rfl hl (by decide) rfl (fun ls hl => ?_)
  refine lv_iconst (v := nI 1) hx hb dX1_find_2 (by decide) ?_
  refine lv_istore_n (lv' := [(2, .int (nI 1)), (1, .int (nI 0)), (0, .ref m0)]) hx hb dX1_find_3 rfl hl (by decide) rfl (fun ls hl => ?_)
  exact loop (rc + 2) 1 ls (by omega) (Nat.le_refl 1) (by omega) rfl (lv_sub hl [2, 1, 0] rfl)
