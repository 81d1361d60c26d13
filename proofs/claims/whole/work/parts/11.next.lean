set_option maxHeartbeats 4000000 in
set_option maxRecDepth 100000 in
/-- next -/
theorem kx_next (l : Launch) (D : va_G) {tys : List (ClassId × FieldType)} {cI : ClassId} (hty : tys[0]? = some (cI, .int)) (h0 hd hc hs : Nat) (wr : va_W) (dr ch st : Nat → Int32) (n rc : Nat) (S : Nat → Nat) (hR : cn_S st rc S) (k : Int32) : Met l yX0_next wsX0_next ({ frames := 2, cells := 0, slots := 0, locals := 60 }) (pu_Pc D vwCl (cn_W cI h0 hd hc hs wr dr ch st n rc) tys [.ref h0, .int k]) (vp_Si (fun r => r = sp_next (cn_rows ch S 1 rc) k)) 0 0 (fun _ => False) := by
  refine pu_of (cc := cX0_next) (maxL := 4) (ret := some .int) (own := RX0) (by decide) rfl rfl (Nat.le_of_ble_eq_true rfl) ?_
  intro p e s m below meth c hx hb hr hts hown hlocks hml hP hK ls hl
  have hl : lv_has ls 4 [(0, .ref h0), (1, .int k)] := hl
  have hin0 : ∀ w ∈ u_ws RX0 TX0 5, w ∈ wsX0_next := by decide +kernel
  have f23 := hts (.fieldLink RX0 23 "NameNumbers" "rowCount" "I") (by decide +kernel)
  refine lv_aload_n hx hb dX0_next_0 rfl (lv_at hl 0 rfl) ?_
  refine lv_iload_n hx hb dX0_next_1 rfl (lv_at hl 1 rfl) ?_
  refine vp_callSi (W.runV (As := [.int k]) (rest := []) ⟨hx, hb, hml, hown, hts⟩ (kx_isRow l D hty h0 hd hc hs wr dr ch st n rc hR.2.2.2.2 k) (cwV 1 hts gX0_next_X0_isRow rfl rfl rfl (by decide +kernel) ⟨Nat.le_of_ble_eq_true rfl, Nat.le_of_ble_eq_true rfl⟩) (pu_preV hK hP 0 rfl rfl) rfl rfl hl.1 rfl (lv_room (Nat.le_of_ble_eq_true rfl)) dX0_next_2 ⟨Nat.zero_le _, Nat.zero_le _⟩) (fun r2 er2 => ?_)
  rcases er2 with ⟨er2, hk_k⟩ | ⟨er2, hk_k⟩
  · subst er2
    obtain ⟨k', h1_k, h2_k, rfl⟩ := hk_k
    have hw_k := cn_row_yes (ch := ch) hR h1_k h2_k
    refine lv_if_ne (tgt := 10) hx hb dX0_next_5 (by decide) (fun c_5 => ?_) (fun c_5 => absurd c_5 (by decide))
    refine lv_iconst (v := nI 0) hx hb dX0_next_10 (by decide) ?_
    refine lv_istore_n (lv' := [(2, .int (nI 0)), (0, .ref h0), (1, .int (nI k'))]) hx hb dX0_next_11 rfl hl (by decide) rfl (fun ls hl => ?_)
    refine lv_iconst (v := nI 1) hx hb dX0_next_12 (by decide) ?_
    refine lv_istore_n (lv' := [(3, .int (nI 1)), (2, .int (nI 0)), (0, .ref h0), (1, .int (nI k'))]) hx hb dX0_next_13 rfl hl (by decide) rfl (fun ls hl => ?_)
    have hrc := hR.2.2.2.2
    have loop : ∀ (j : Nat) (o : Nat) (b : Nat) (ls : Array Slot), rc + 2 ≤ o + j → 1 ≤ o → o ≤ rc + 1 → b ≤ rc → sp_nx (cn_rows ch S 1 rc) (cn_row ch S k') (cn_rows ch S 1 rc) 1 0 = sp_nx (cn_rows ch S 1 rc) (cn_row ch S k') (cn_rows ch S o (rc + 1 - o)) o b → lv_has ls 4 [(0, .ref h0), (1, .int (nI k')), (2, .int (nI b)), (3, .int (nI o))] → W p l e { frames := 2, cells := 0, slots := 0, locals := 60 } s m [.ref h0, .int (nI k')].toArray below meth c s.heap [] 0 0 (MQ below (vp_Si (fun r => r = sp_next (cn_rows ch S 1 rc) (nI k'))) [.ref h0, .int (nI k')].toArray s 0 0 (fun _ => False)) (F0 m 14 ls []) := by
      intro j
      induction j with
      | zero => intro o b ls hj hk1 hk2 hbb hinv hl; exfalso; omega
      | succ j ih =>
        intro o b ls hj hk1 hk2 hbb hinv hl
        refine lv_iload_n hx hb dX0_next_14 rfl (lv_at hl 3 rfl) ?_
        refine lv_aload_n hx hb dX0_next_15 rfl (lv_at hl 0 rfl) ?_
        refine va_get (D := D) (ci := 0) (v := .int (nI rc)) (C := RX0) (T := TX0) (N := 5) hx hb hts hin0 hown hK hP 0 rfl rfl 4 (by decide) f23 (fun _ h9 => h9) rfl dX0_next_16 ?_
        refine rn_icmp_gt (tgt := 52) hx hb (by have := hR.2.2.2.2; omega) (by have := hR.2.2.2.2; omega) dX0_next_19 (by decide) (fun c_19 => ?_) (fun c_19 => ?_)
        · refine lv_iload_n hx hb dX0_next_52 rfl (lv_at hl 2 rfl) ?_
          exact pu_iret hx hb hr hlocks (by rw [sp_next, hw_k]; show nI b = nI (sp_nx _ _ _ 1 0); rw [cn_nx_end c_19 hinv]) dX0_next_53
        · refine lv_aload_n hx hb dX0_next_22 rfl (lv_at hl 0 rfl) ?_
          refine lv_iload_n hx hb dX0_next_23 rfl (lv_at hl 3 rfl) ?_
          refine lv_iload_n hx hb dX0_next_24 rfl (lv_at hl 1 rfl) ?_
          refine vp_callSi (W.runV (As := [.int (nI o), .int (nI k')]) (rest := []) ⟨hx, hb, hml, hown, hts⟩ (kx_order l D hty h0 hd hc hs wr dr ch st n rc S hR o k' hk1 (by omega) h1_k h2_k) (cwV 2 hts gX0_next_X0_order rfl rfl rfl (by decide +kernel) ⟨Nat.le_of_ble_eq_true rfl, Nat.le_of_ble_eq_true rfl⟩) (pu_preV hK hP 0 rfl rfl) rfl rfl hl.1 rfl (lv_room (Nat.le_of_ble_eq_true rfl)) dX0_next_25 ⟨Nat.zero_le _, Nat.zero_le _⟩) (fun r25 er25 => ?_)
          refine lv_if_le (tgt := 46) hx hb dX0_next_28 (by decide) (fun c_28 => ?_) (fun c_28 => ?_)
          · refine rn_iinc (n := 1) (lv' := [(3, .int (nI (o + 1))), (0, .ref h0), (1, .int (nI k')), (2, .int (nI b))]) hx hb dX0_next_46 hl (k := 3) rfl (by decide) rfl (fun ls hl => ?_)
            refine lv_goto (tgt := 14) hx hb dX0_next_49 (by decide) ?_
            exact ih (o + 1) b ls (by omega) (by omega) (by omega) hbb (by first | exact cn_nx_a (by omega) hinv (by rw [← er25]; exact c_28) | exact cn_nx_b (by omega) hinv (Nat.one_le_iff_ne_zero.mpr (fun q => c_32 (by rw [q]; rfl))) hbb (by rw [← er38]; exact c_41)) (lv_sub hl [1, 2, 3, 0] rfl)
          · refine lv_iload_n hx hb dX0_next_31 rfl (lv_at hl 2 rfl) ?_
            refine lv_if_eq (tgt := 44) hx hb dX0_next_32 (by decide) (fun c_32 => ?_) (fun c_32 => ?_)
            · refine lv_iload_n hx hb dX0_next_44 rfl (lv_at hl 3 rfl) ?_
              refine lv_istore_n (lv' := [(2, .int (nI o)), (0, .ref h0), (1, .int (nI k')), (3, .int (nI o))]) hx hb dX0_next_45 rfl hl (by decide) rfl (fun ls hl => ?_)
              refine rn_iinc (n := 1) (lv' := [(3, .int (nI (o + 1))), (2, .int (nI o)), (0, .ref h0), (1, .int (nI k'))]) hx hb dX0_next_46 hl (k := 3) rfl (by decide) rfl (fun ls hl => ?_)
              refine lv_goto (tgt := 14) hx hb dX0_next_49 (by decide) ?_
              exact ih (o + 1) o ls (by omega) (by omega) (by omega) (by omega) (by first | exact cn_nx_d (by omega) hinv (by rw [← er25]; exact c_28) (Nat.one_le_iff_ne_zero.mpr (fun q => c_32 (by rw [q]; rfl))) hbb (by rw [← er38]; exact c_41) | exact cn_nx_c (by omega) hinv (by rw [← er25]; exact c_28) (sp_nI0 (by omega) c_32)) (lv_sub hl [2, 3, 1, 0] rfl)
            · refine lv_aload_n hx hb dX0_next_35 rfl (lv_at hl 0 rfl) ?_
              refine lv_iload_n hx hb dX0_next_36 rfl (lv_at hl 3 rfl) ?_
              refine lv_iload_n hx hb dX0_next_37 rfl (lv_at hl 2 rfl) ?_
              refine vp_callSi (W.runV (As := [.int (nI o), .int (nI b)]) (rest := []) ⟨hx, hb, hml, hown, hts⟩ (kx_order l D hty h0 hd hc hs wr dr ch st n rc S hR o b hk1 (by omega) (Nat.one_le_iff_ne_zero.mpr (fun q => c_32 (by rw [q]; rfl))) hbb) (cwV 2 hts gX0_next_X0_order rfl rfl rfl (by decide +kernel) ⟨Nat.le_of_ble_eq_true rfl, Nat.le_of_ble_eq_true rfl⟩) (pu_preV hK hP 0 rfl rfl) rfl rfl hl.1 rfl (lv_room (Nat.le_of_ble_eq_true rfl)) dX0_next_38 ⟨Nat.zero_le _, Nat.zero_le _⟩) (fun r38 er38 => ?_)
              refine lv_if_ge (tgt := 46) hx hb dX0_next_41 (by decide) (fun c_41 => ?_) (fun c_41 => ?_)
              · refine rn_iinc (n := 1) (lv' := [(3, .int (nI (o + 1))), (0, .ref h0), (1, .int (nI k')), (2, .int (nI b))]) hx hb dX0_next_46 hl (k := 3) rfl (by decide) rfl (fun ls hl => ?_)
                refine lv_goto (tgt := 14) hx hb dX0_next_49 (by decide) ?_
                exact ih (o + 1) b ls (by omega) (by omega) (by omega) hbb (by first | exact cn_nx_a (by omega) hinv (by rw [← er25]; exact c_28) | exact cn_nx_b (by omega) hinv (Nat.one_le_iff_ne_zero.mpr (fun q => c_32 (by rw [q]; rfl))) hbb (by rw [← er38]; exact c_41)) (lv_sub hl [1, 2, 3, 0] rfl)
              · refine lv_iload_n hx hb dX0_next_44 rfl (lv_at hl 3 rfl) ?_
                refine lv_istore_n (lv' := [(2, .int (nI o)), (0, .ref h0), (1, .int (nI k')), (3, .int (nI o))]) hx hb dX0_next_45 rfl hl (by decide) rfl (fun ls hl => ?_)
                refine rn_iinc (n := 1) (lv' := [(3, .int (nI (o + 1))), (2, .int (nI o)), (0, .ref h0), (1, .int (nI k'))]) hx hb dX0_next_46 hl (k := 3) rfl (by decide) rfl (fun ls hl => ?_)
                refine lv_goto (tgt := 14) hx hb dX0_next_49 (by decide) ?_
                exact ih (o + 1) o ls (by omega) (by omega) (by omega) (by omega) (by first | exact cn_nx_d (by omega) hinv (by rw [← er25]; exact c_28) (Nat.one_le_iff_ne_zero.mpr (fun q => c_32 (by rw [q]; rfl))) hbb (by rw [← er38]; exact c_41) | exact cn_nx_c (by omega) hinv (by rw [← er25]; exact c_28) (sp_nI0 (by omega) c_32)) (lv_sub hl [2, 3, 1, 0] rfl)
    exact loop (rc + 2) 1 0 ls (by omega) (Nat.le_refl 1) (by omega) (Nat.zero_le _) rfl (lv_sub hl [2, 3, 1, 0] rfl)
  · subst er2
    have hw_k := cn_row_no (ch := ch) hR hk_k
    refine lv_if_ne (tgt := 10) hx hb dX0_next_5 (by decide) (fun c_5 => absurd c_5 (not_not_intro (by decide))) (fun c_5 => ?_)
    refine lv_iconst (v := (-1)) hx hb dX0_next_8 (by decide) ?_
    exact pu_iret hx hb hr hlocks (by rw [sp_next, hw_k]) dX0_next_9
