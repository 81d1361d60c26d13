set_option maxHeartbeats 4000000 in
set_option maxRecDepth 100000 in
/-- take -/
theorem km_take (l : Launch) (D : va_G) {tys : List (ClassId × FieldType)} {cI : ClassId} (hty : tys[0]? = some (cI, .int)) (m0 ms mt ml md mk : Nat) (wr : va_W) (sg ta le dr so : Nat → Int32) (us rc n sn : Nat) (A : Nat → Prop) (S : Nat → Nat) (hM : md_S ta le us rc S) (hn : n ≤ 2000) (hsn : sn ≤ 20000) (k : Int32) : Met l yX1_take wsX1_take ({ frames := 1, cells := 0, slots := 0, locals := 24 }) (mu_Pc D vwCl (md_W cI m0 ms mt ml md mk wr sg ta le dr so us rc n sn) tys A [.ref m0, .int k]) (va_Qi (fun r w => md_Ok cI (md_W cI m0 ms mt ml md mk wr) (sp_take_ (cn_rows sg S 1 rc) (sp_sl dr 0 n) k).1 (cn_rows sg S 1 rc) w ∧ r = (sp_take_ (cn_rows sg S 1 rc) (sp_sl dr 0 n) k).2) (mu_B D vwCl tys A) A) 0 0 A := by
  refine mu_of (cc := cX1_take) (maxL := 3) (ret := some .int) (own := RX1) (by decide) rfl rfl (Nat.le_of_ble_eq_true rfl) ?_
  intro p e s m below meth c hx hb hr hts hown hlocks hml hP hK hD hS ls hl
  have hl : lv_has ls 3 [(0, .ref m0), (1, .int k)] := hl
  have hin1 : ∀ w ∈ u_ws RX1 TX1 9, w ∈ wsX1_take := by decide +kernel
  have f7 := hts (.fieldLink RX1 7 "NameNumbersModel" "signs" "[I") (by decide +kernel)
  have f13 := hts (.fieldLink RX1 13 "NameNumbersModel" "starts" "[I") (by decide +kernel)
  have f16 := hts (.fieldLink RX1 16 "NameNumbersModel" "lengths" "[I") (by decide +kernel)
  have f19 := hts (.fieldLink RX1 19 "NameNumbersModel" "draft" "[I") (by decide +kernel)
  have f26 := hts (.fieldLink RX1 26 "NameNumbersModel" "written" "I") (by decide +kernel)
  have hP : va_P D vwCl (md_W cI m0 ms mt ml md mk wr sg ta le dr so us rc n sn) s.heap := hP
  have hrc := hM.2.2.2.2.2
  refine lv_aload_n hx hb dX1_take_0 rfl (lv_at hl 0 rfl) ?_
  refine lv_iload_n hx hb dX1_take_1 rfl (lv_at hl 1 rfl) ?_
  refine vp_callSi (W.runV (As := [.int k]) (rest := []) ⟨hx, hb, hml, hown, hts⟩ (km_isRow l D hty m0 ms mt ml md mk wr sg ta le dr so us rc n sn hM.2.2.2.2.2 k) (cwV 1 hts gX1_take_X1_isRow rfl rfl rfl (by decide +kernel) ⟨Nat.le_of_ble_eq_true rfl, Nat.le_of_ble_eq_true rfl⟩) (pu_preV hK hP 0 rfl rfl) rfl rfl hl.1 rfl (lv_room (Nat.le_of_ble_eq_true rfl)) dX1_take_2 ⟨Nat.zero_le _, Nat.zero_le _⟩) (fun r2 er2 => ?_)
  rcases er2 with ⟨er2, hk_k⟩ | ⟨er2, hk_k⟩
  · subst er2
    obtain ⟨k', h1_k, h2_k, rfl⟩ := hk_k
    have hw_k := cn_row_yes (ch := sg) (md_R hM) h1_k h2_k
    refine lv_if_eq (tgt := 25) hx hb dX1_take_5 (by decide) (fun c_5 => absurd c_5 (by decide)) (fun c_5 => ?_)
    have htk := cn_top (md_R hM) (k := k' + 1) (by omega) (by omega)
    have hlk := hM.2.2.1 k' h1_k h2_k
    refine lv_aload_n hx hb dX1_take_8 rfl (lv_at hl 0 rfl) ?_
    refine va_get (D := D) (ci := 1) (v := .int (nI n)) (C := RX1) (T := TX1) (N := 9) hx hb hts hin1 hown hK hP 0 rfl rfl 6 (by decide) f26 (fun _ h9 => h9) rfl dX1_take_9 ?_
    refine lv_aload_n hx hb dX1_take_12 rfl (lv_at hl 0 rfl) ?_
    refine va_get (D := D) (ci := 1) (v := .ref ml) (C := RX1) (T := TX1) (N := 9) hx hb hts hin1 hown hK hP 0 rfl rfl 3 (by decide) f16 (fun _ h9 => h9) rfl dX1_take_13 ?_
    refine lv_iload_n hx hb dX1_take_16 rfl (lv_at hl 1 rfl) ?_
    refine rn_ald (v := nI (S (k' + 1) - S k')) hx hb hK hP 3 0 rfl hty (by have := hM.2.2.2.2.2; omega) (by decide) ((hM.2.1 k' (by omega) (by omega)).2) dX1_take_17 ?_
    refine rn_iadd hx hb dX1_take_18 ?_
    refine lv_sipush (v := nI 2000) hx hb dX1_take_19 (by decide) ?_
    refine rn_icmp_le (tgt := 27) hx hb (by omega) (by omega) dX1_take_22 (by decide) (fun c_22 => ?_) (fun c_22 => ?_)
    · refine lv_iconst (v := nI 0) hx hb dX1_take_27 (by decide) ?_
      refine lv_istore_n (lv' := [(2, .int (nI 0)), (0, .ref m0), (1, .int (nI k'))]) hx hb dX1_take_28 rfl hl (by decide) rfl (fun ls hl => ?_)
      have loop : ∀ (j : Nat) (i : Nat) (f : Nat → Int32) (H : Heap) (locs : List Loc) (ls : Array Slot), (S (k' + 1) - S k') + 1 ≤ i + j → i ≤ (S (k' + 1) - S k') → (∀ z, z < n → f z = dr z) → (∀ z, z < i → f (n + z) = sg (S k' + z)) → va_P D vwCl (md_W cI m0 ms mt ml md mk wr sg ta le f so us rc (n + i) sn) H → va_D A (md_W cI m0 ms mt ml md mk wr sg ta le f so us rc (n + i) sn) → va_S A s.heap H locs → lv_has ls 3 [(0, .ref m0), (1, .int (nI k')), (2, .int (nI i))] → W p l e { frames := 1, cells := 0, slots := 0, locals := 24 } s m [.ref m0, .int (nI k')].toArray below meth c H locs 0 0 (MQ below (va_Qi (fun r w => md_Ok cI (md_W cI m0 ms mt ml md mk wr) (sp_take_ (cn_rows sg S 1 rc) (sp_sl dr 0 n) (nI k')).1 (cn_rows sg S 1 rc) w ∧ r = (sp_take_ (cn_rows sg S 1 rc) (sp_sl dr 0 n) (nI k')).2) (mu_B D vwCl tys A) A) [.ref m0, .int (nI k')].toArray s 0 0 A) (F0 m 29 ls []) := by
        intro j
        induction j with
        | zero => intro i f H locs ls hj hi hinv1 hinv2 hP hD hS hl; exfalso; omega
        | succ j ih =>
          intro i f H locs ls hj hi hinv1 hinv2 hP hD hS hl
          refine lv_iload_n hx hb dX1_take_29 rfl (lv_at hl 2 rfl) ?_
          refine lv_aload_n hx hb dX1_take_30 rfl (lv_at hl 0 rfl) ?_
          refine va_get (D := D) (ci := 1) (v := .ref ml) (C := RX1) (T := TX1) (N := 9) hx hb hts hin1 hown hK hP 0 rfl rfl 3 (by decide) f16 (fun _ h9 => h9) rfl dX1_take_31 ?_
          refine lv_iload_n hx hb dX1_take_34 rfl (lv_at hl 1 rfl) ?_
          refine rn_ald (v := nI (S (k' + 1) - S k')) hx hb hK hP 3 0 rfl hty (by have := hM.2.2.2.2.2; omega) (by decide) ((hM.2.1 k' (by omega) (by omega)).2) dX1_take_35 ?_
          refine rn_icmp_ge (tgt := 77) hx hb (by omega) (by omega) dX1_take_36 (by decide) (fun c_36 => ?_) (fun c_36 => ?_)
          · refine lv_aload_n hx hb dX1_take_77 rfl (lv_at hl 0 rfl) ?_
            refine va_get (D := D) (ci := 1) (v := .int (nI (n + i))) (C := RX1) (T := TX1) (N := 9) hx hb hts hin1 hown hK hP 0 rfl rfl 6 (by decide) f26 (fun _ h9 => h9) rfl dX1_take_78 ?_
            exact mu_iret hx hb hr hlocks hP hK hD hS (by rw [cn_tk_some hw_k, if_neg (by rw [sp_len, cn_row, sp_len]; omega), md_tk (show S (k' + 1) - S k' = i by omega) hinv1 hinv2, sp_len, cn_row, sp_len, show S (k' + 1) - S k' = i by omega]; exact ⟨⟨sg, ta, le, f, so, us, rc, n + i, sn, S, rfl, by omega, hsn, hM, rfl, rfl⟩, rfl⟩) dX1_take_81
          · refine lv_aload_n hx hb dX1_take_39 rfl (lv_at hl 0 rfl) ?_
            refine va_get (D := D) (ci := 1) (v := .ref md) (C := RX1) (T := TX1) (N := 9) hx hb hts hin1 hown hK hP 0 rfl rfl 5 (by decide) f19 (fun _ h9 => h9) rfl dX1_take_40 ?_
            refine lv_aload_n hx hb dX1_take_43 rfl (lv_at hl 0 rfl) ?_
            refine va_get (D := D) (ci := 1) (v := .int (nI (n + i))) (C := RX1) (T := TX1) (N := 9) hx hb hts hin1 hown hK hP 0 rfl rfl 6 (by decide) f26 (fun _ h9 => h9) rfl dX1_take_44 ?_
            refine lv_aload_n hx hb dX1_take_47 rfl (lv_at hl 0 rfl) ?_
            refine va_get (D := D) (ci := 1) (v := .ref ms) (C := RX1) (T := TX1) (N := 9) hx hb hts hin1 hown hK hP 0 rfl rfl 0 (by decide) f7 (fun _ h9 => h9) rfl dX1_take_48 ?_
            refine lv_aload_n hx hb dX1_take_51 rfl (lv_at hl 0 rfl) ?_
            refine va_get (D := D) (ci := 1) (v := .ref mt) (C := RX1) (T := TX1) (N := 9) hx hb hts hin1 hown hK hP 0 rfl rfl 2 (by decide) f13 (fun _ h9 => h9) rfl dX1_take_52 ?_
            refine lv_iload_n hx hb dX1_take_55 rfl (lv_at hl 1 rfl) ?_
            refine rn_ald (v := nI (S k')) hx hb hK hP 2 0 rfl hty (by have := hM.2.2.2.2.2; omega) (by decide) ((hM.2.1 k' (by omega) (by omega)).1) dX1_take_56 ?_
            refine lv_iload_n hx hb dX1_take_57 rfl (lv_at hl 2 rfl) ?_
            refine rn_iadd hx hb dX1_take_58 ?_
            refine rn_ald (v := sg (S k' + i)) hx hb hK hP 1 0 rfl hty (by omega) (by decide) (rfl) dX1_take_59 ?_
            refine rn_ast hx hb hK hP hD hS 4 0 rfl hty (by omega) (by decide) dX1_take_60 (fun H locs hP hD hS => ?_)
            have hP : va_P D vwCl ((m0, .inr (1, [.ref ms, .int (nI us), .ref mt, .ref ml, .int (nI rc), .ref md, .int (nI (n + i)), .ref mk, .int (nI sn)])) :: (ms, .inl (cI, 20000, .inl sg)) :: (mt, .inl (cI, 3001, .inl ta)) :: (ml, .inl (cI, 3001, .inl le)) :: (md, .inl (cI, 2000, .inl (upd f (n + i) (sg (S k' + i))))) :: (mk, .inl (cI, 20000, .inl so)) :: wr) H := hP
            have hD : va_D A ((m0, .inr (1, [.ref ms, .int (nI us), .ref mt, .ref ml, .int (nI rc), .ref md, .int (nI (n + i)), .ref mk, .int (nI sn)])) :: (ms, .inl (cI, 20000, .inl sg)) :: (mt, .inl (cI, 3001, .inl ta)) :: (ml, .inl (cI, 3001, .inl le)) :: (md, .inl (cI, 2000, .inl (upd f (n + i) (sg (S k' + i))))) :: (mk, .inl (cI, 20000, .inl so)) :: wr) := hD
            refine lv_aload_n hx hb dX1_take_61 rfl (lv_at hl 0 rfl) ?_
            refine lv_aload_n hx hb dX1_take_62 rfl (lv_at hl 0 rfl) ?_
            refine va_get (D := D) (ci := 1) (v := .int (nI (n + i))) (C := RX1) (T := TX1) (N := 9) hx hb hts hin1 hown hK hP 0 rfl rfl 6 (by decide) f26 (fun _ h9 => h9) rfl dX1_take_63 ?_
            refine lv_iconst (v := nI 1) hx hb dX1_take_66 (by decide) ?_
            refine rn_iadd hx hb dX1_take_67 ?_
            refine va_put (D := D) (ci := 1) (v := .int (nI (n + i + 1))) (ty := .int) (C := RX1) (T := TX1) (N := 9) hx hb hts hin1 tyX1 tyX1_ok nmX1 hown hK hP hD hS 0 rfl rfl 6 (by decide) f26 (fun _ h9 => h9) rfl (by decide +kernel) rfl rfl (Nat.le_of_ble_eq_true rfl) dX1_take_68 (fun H locs hP hD hS => ?_)
            have hP : va_P D vwCl ((m0, .inr (1, [.ref ms, .int (nI us), .ref mt, .ref ml, .int (nI rc), .ref md, .int (nI (n + i + 1)), .ref mk, .int (nI sn)])) :: (ms, .inl (cI, 20000, .inl sg)) :: (mt, .inl (cI, 3001, .inl ta)) :: (ml, .inl (cI, 3001, .inl le)) :: (md, .inl (cI, 2000, .inl (upd f (n + i) (sg (S k' + i))))) :: (mk, .inl (cI, 20000, .inl so)) :: wr) H := hP
            have hD : va_D A ((m0, .inr (1, [.ref ms, .int (nI us), .ref mt, .ref ml, .int (nI rc), .ref md, .int (nI (n + i + 1)), .ref mk, .int (nI sn)])) :: (ms, .inl (cI, 20000, .inl sg)) :: (mt, .inl (cI, 3001, .inl ta)) :: (ml, .inl (cI, 3001, .inl le)) :: (md, .inl (cI, 2000, .inl (upd f (n + i) (sg (S k' + i))))) :: (mk, .inl (cI, 20000, .inl so)) :: wr) := hD
            refine rn_iinc (n := 1) (lv' := [(2, .int (nI (i + 1))), (0, .ref m0), (1, .int (nI k'))]) hx hb dX1_take_71 hl (k := 2) rfl (by decide) rfl (fun ls hl => ?_)
            refine lv_goto (tgt := 29) hx hb dX1_take_74 (by decide) ?_
            exact ih (i + 1) (upd f (n + i) (sg (S k' + i))) H locs ls (by omega) (by omega) (fun z hz => by rw [pk_un (by omega)]; exact hinv1 z hz) (fun z hz => (Nat.lt_or_ge z i).elim (fun h => by rw [pk_un (by omega)]; exact hinv2 z h) (fun h => by rw [show z = i by omega, pk_us])) hP hD hS (lv_sub hl [1, 2, 0] rfl)
      exact loop ((S (k' + 1) - S k') + 1) 0 dr s.heap [] ls (by omega) (Nat.zero_le _) (fun _ _ => rfl) (fun z hz => absurd hz (Nat.not_lt_zero z)) hP hD hS (lv_sub hl [1, 2, 0] rfl)
    · refine lv_iconst (v := (-1)) hx hb dX1_take_25 (by decide) ?_
      exact mu_iret hx hb hr hlocks hP hK hD hS (by first | (rw [sp_take_, hw_k]; exact ⟨⟨sg, ta, le, dr, so, us, rc, n, sn, S, rfl, hn, hsn, hM, rfl, rfl⟩, rfl⟩) | (rw [cn_tk_some hw_k, if_pos (by rw [sp_len, cn_row, sp_len]; omega)]; exact ⟨⟨sg, ta, le, dr, so, us, rc, n, sn, S, rfl, hn, hsn, hM, rfl, rfl⟩, rfl⟩)) dX1_take_26
  · subst er2
    have hw_k := cn_row_no (ch := sg) (md_R hM) hk_k
    refine lv_if_eq (tgt := 25) hx hb dX1_take_5 (by decide) (fun c_5 => ?_) (fun c_5 => absurd c_5 (not_not_intro (by decide)))
    refine lv_iconst (v := (-1)) hx hb dX1_take_25 (by decide) ?_
    exact mu_iret hx hb hr hlocks hP hK hD hS (by first | (rw [sp_take_, hw_k]; exact ⟨⟨sg, ta, le, dr, so, us, rc, n, sn, S, rfl, hn, hsn, hM, rfl, rfl⟩, rfl⟩) | (rw [cn_tk_some hw_k, if_pos (by rw [sp_len, cn_row, sp_len]; omega)]; exact ⟨⟨sg, ta, le, dr, so, us, rc, n, sn, S, rfl, hn, hsn, hM, rfl, rfl⟩, rfl⟩)) dX1_take_26
set_option maxHeartbeats 4000000 in
set_option maxRecDepth 100000 in
/-- write -/
theorem km_write (l : Launch) (D : va_G) {tys : List (ClassId × FieldType)} {cI : ClassId} (hty : tys[0]? = some (cI, .int)) (m0 ms mt ml md mk : Nat) (wr : va_W) (sg ta le dr so : Nat → Int32) (us rc n sn : Nat) (A : Nat → Prop) (S : Nat → Nat) (hM : md_S ta le us rc S) (hn : n ≤ 2000) (hsn : sn ≤ 20000) (q g : Int32) : Met l yX1_write wsX1_write ({ frames := 0, cells := 0, slots := 0, locals := 0 }) (mu_Pc D vwCl (md_W cI m0 ms mt ml md mk wr sg ta le dr so us rc n sn) tys A [.ref m0, .int q, .int g]) (va_Qi (fun r w => md_Ok cI (md_W cI m0 ms mt ml md mk wr) (sp_write (sp_sl dr 0 n) q g).1 (cn_rows sg S 1 rc) w ∧ r = (sp_write (sp_sl dr 0 n) q g).2) (mu_B D vwCl tys A) A) 0 0 A := by
  refine mu_of (cc := cX1_write) (maxL := 4) (ret := some .int) (own := RX1) (by decide) rfl rfl (Nat.le_of_ble_eq_true rfl) ?_
  intro p e s m below meth c hx hb hr hts hown hlocks hml hP hK hD hS ls hl
  have hl : lv_has ls 4 [(0, .ref m0), (1, .int q), (2, .int g)] := hl
  have hin1 : ∀ w ∈ u_ws RX1 TX1 9, w ∈ wsX1_write := by decide +kernel
  have f19 := hts (.fieldLink RX1 19 "NameNumbersModel" "draft" "[I") (by decide +kernel)
  have f26 := hts (.fieldLink RX1 26 "NameNumbersModel" "written" "I") (by decide +kernel)
  have hP : va_P D vwCl (md_W cI m0 ms mt ml md mk wr sg ta le dr so us rc n sn) s.heap := hP
  refine lv_iload_n hx hb dX1_write_0 rfl (lv_at hl 1 rfl) ?_
  refine lv_if_lt (tgt := 43) hx hb dX1_write_1 (by decide) (fun c_1 => ?_) (fun c_1 => ?_)
  · refine lv_iconst (v := (-1)) hx hb dX1_write_43 (by decide) ?_
    exact mu_iret hx hb hr hlocks hP hK hD hS (by rw [cn_wr_no (by first | exact Or.inr (Or.inr (Or.inl c_1)) | exact Or.inr (Or.inr (Or.inr (Or.inl (nI_lt (a := 1114111 - g.toNatClampNeg) (by omega) hx31)))) | exact Or.inl c_11 | exact Or.inr (Or.inl (nI_lt c_18 hy31)) | exact Or.inr (Or.inr (Or.inr (Or.inl (by rw [nI_clamp hy31]; exact nI_lt (by omega) hx31)))) | exact Or.inr (Or.inr (Or.inr (Or.inr (by rw [nI_clamp hy31, sp_len]; omega)))))]; exact ⟨⟨sg, ta, le, dr, so, us, rc, n, sn, S, rfl, hn, hsn, hM, rfl, rfl⟩, rfl⟩) dX1_write_44
  · obtain ⟨x, hx31, rfl⟩ := nI_of c_1
    refine lv_iload_n hx hb dX1_write_4 rfl (lv_at hl 1 rfl) ?_
    refine lv_ldc (v := nI 1114111) hx hb hown (hts (.constant RX1 25 (nI 1114111)) (by decide +kernel)) dX1_write_5 ?_
    refine rn_icmp_gt (tgt := 43) hx hb (by omega) (by omega) dX1_write_7 (by decide) (fun c_7 => ?_) (fun c_7 => ?_)
    · refine lv_iconst (v := (-1)) hx hb dX1_write_43 (by decide) ?_
      exact mu_iret hx hb hr hlocks hP hK hD hS (by rw [cn_wr_no (by first | exact Or.inr (Or.inr (Or.inl c_1)) | exact Or.inr (Or.inr (Or.inr (Or.inl (nI_lt (a := 1114111 - g.toNatClampNeg) (by omega) hx31)))) | exact Or.inl c_11 | exact Or.inr (Or.inl (nI_lt c_18 hy31)) | exact Or.inr (Or.inr (Or.inr (Or.inl (by rw [nI_clamp hy31]; exact nI_lt (by omega) hx31)))) | exact Or.inr (Or.inr (Or.inr (Or.inr (by rw [nI_clamp hy31, sp_len]; omega)))))]; exact ⟨⟨sg, ta, le, dr, so, us, rc, n, sn, S, rfl, hn, hsn, hM, rfl, rfl⟩, rfl⟩) dX1_write_44
    · refine lv_iload_n hx hb dX1_write_10 rfl (lv_at hl 2 rfl) ?_
      refine lv_if_lt (tgt := 43) hx hb dX1_write_11 (by decide) (fun c_11 => ?_) (fun c_11 => ?_)
      · refine lv_iconst (v := (-1)) hx hb dX1_write_43 (by decide) ?_
        exact mu_iret hx hb hr hlocks hP hK hD hS (by rw [cn_wr_no (by first | exact Or.inr (Or.inr (Or.inl c_1)) | exact Or.inr (Or.inr (Or.inr (Or.inl (nI_lt (a := 1114111 - g.toNatClampNeg) (by omega) hx31)))) | exact Or.inl c_11 | exact Or.inr (Or.inl (nI_lt c_18 hy31)) | exact Or.inr (Or.inr (Or.inr (Or.inl (by rw [nI_clamp hy31]; exact nI_lt (by omega) hx31)))) | exact Or.inr (Or.inr (Or.inr (Or.inr (by rw [nI_clamp hy31, sp_len]; omega)))))]; exact ⟨⟨sg, ta, le, dr, so, us, rc, n, sn, S, rfl, hn, hsn, hM, rfl, rfl⟩, rfl⟩) dX1_write_44
      · obtain ⟨y, hy31, rfl⟩ := nI_of c_11
        refine lv_iload_n hx hb dX1_write_14 rfl (lv_at hl 2 rfl) ?_
        refine lv_sipush (v := nI 500) hx hb dX1_write_15 (by decide) ?_
        refine rn_icmp_gt (tgt := 43) hx hb (by omega) (by omega) dX1_write_18 (by decide) (fun c_18 => ?_) (fun c_18 => ?_)
        · refine lv_iconst (v := (-1)) hx hb dX1_write_43 (by decide) ?_
          exact mu_iret hx hb hr hlocks hP hK hD hS (by rw [cn_wr_no (by first | exact Or.inr (Or.inr (Or.inl c_1)) | exact Or.inr (Or.inr (Or.inr (Or.inl (nI_lt (a := 1114111 - g.toNatClampNeg) (by omega) hx31)))) | exact Or.inl c_11 | exact Or.inr (Or.inl (nI_lt c_18 hy31)) | exact Or.inr (Or.inr (Or.inr (Or.inl (by rw [nI_clamp hy31]; exact nI_lt (by omega) hx31)))) | exact Or.inr (Or.inr (Or.inr (Or.inr (by rw [nI_clamp hy31, sp_len]; omega)))))]; exact ⟨⟨sg, ta, le, dr, so, us, rc, n, sn, S, rfl, hn, hsn, hM, rfl, rfl⟩, rfl⟩) dX1_write_44
        · refine lv_iload_n hx hb dX1_write_21 rfl (lv_at hl 1 rfl) ?_
          refine lv_iload_n hx hb dX1_write_22 rfl (lv_at hl 2 rfl) ?_
          refine rn_iadd hx hb dX1_write_23 ?_
          refine lv_ldc (v := nI 1114111) hx hb hown (hts (.constant RX1 25 (nI 1114111)) (by decide +kernel)) dX1_write_24 ?_
          refine rn_icmp_gt (tgt := 43) hx hb (by omega) (by omega) dX1_write_26 (by decide) (fun c_26 => ?_) (fun c_26 => ?_)
          · refine lv_iconst (v := (-1)) hx hb dX1_write_43 (by decide) ?_
            exact mu_iret hx hb hr hlocks hP hK hD hS (by rw [cn_wr_no (by first | exact Or.inr (Or.inr (Or.inl c_1)) | exact Or.inr (Or.inr (Or.inr (Or.inl (nI_lt (a := 1114111 - g.toNatClampNeg) (by omega) hx31)))) | exact Or.inl c_11 | exact Or.inr (Or.inl (nI_lt c_18 hy31)) | exact Or.inr (Or.inr (Or.inr (Or.inl (by rw [nI_clamp hy31]; exact nI_lt (by omega) hx31)))) | exact Or.inr (Or.inr (Or.inr (Or.inr (by rw [nI_clamp hy31, sp_len]; omega)))))]; exact ⟨⟨sg, ta, le, dr, so, us, rc, n, sn, S, rfl, hn, hsn, hM, rfl, rfl⟩, rfl⟩) dX1_write_44
          · refine lv_aload_n hx hb dX1_write_29 rfl (lv_at hl 0 rfl) ?_
            refine va_get (D := D) (ci := 1) (v := .int (nI n)) (C := RX1) (T := TX1) (N := 9) hx hb hts hin1 hown hK hP 0 rfl rfl 6 (by decide) f26 (fun _ h9 => h9) rfl dX1_write_30 ?_
            refine lv_iload_n hx hb dX1_write_33 rfl (lv_at hl 2 rfl) ?_
            refine rn_iadd hx hb dX1_write_34 ?_
            refine lv_iconst (v := nI 1) hx hb dX1_write_35 (by decide) ?_
            refine rn_iadd hx hb dX1_write_36 ?_
            refine lv_sipush (v := nI 2000) hx hb dX1_write_37 (by decide) ?_
            refine rn_icmp_le (tgt := 45) hx hb (by omega) (by omega) dX1_write_40 (by decide) (fun c_40 => ?_) (fun c_40 => ?_)
            · refine lv_iconst (v := nI 0) hx hb dX1_write_45 (by decide) ?_
              refine lv_istore_n (lv' := [(3, .int (nI 0)), (0, .ref m0), (1, .int (nI x)), (2, .int (nI y))]) hx hb dX1_write_46 rfl hl (by decide) rfl (fun ls hl => ?_)
              have loop : ∀ (j : Nat) (i : Nat) (f : Nat → Int32) (H : Heap) (locs : List Loc) (ls : Array Slot), y + 2 ≤ i + j → i ≤ y + 1 → (∀ z, z < n → f z = dr z) → (∀ z, z < i → f (n + z) = nI (x + z)) → va_P D vwCl (md_W cI m0 ms mt ml md mk wr sg ta le f so us rc (n + i) sn) H → va_D A (md_W cI m0 ms mt ml md mk wr sg ta le f so us rc (n + i) sn) → va_S A s.heap H locs → lv_has ls 4 [(0, .ref m0), (1, .int (nI x)), (2, .int (nI y)), (3, .int (nI i))] → W p l e { frames := 0, cells := 0, slots := 0, locals := 0 } s m [.ref m0, .int (nI x), .int (nI y)].toArray below meth c H locs 0 0 (MQ below (va_Qi (fun r w => md_Ok cI (md_W cI m0 ms mt ml md mk wr) (sp_write (sp_sl dr 0 n) (nI x) (nI y)).1 (cn_rows sg S 1 rc) w ∧ r = (sp_write (sp_sl dr 0 n) (nI x) (nI y)).2) (mu_B D vwCl tys A) A) [.ref m0, .int (nI x), .int (nI y)].toArray s 0 0 A) (F0 m 47 ls []) := by
                intro j
                induction j with
                | zero => intro i f H locs ls hj hi hinv1 hinv2 hP hD hS hl; exfalso; omega
                | succ j ih =>
                  intro i f H locs ls hj hi hinv1 hinv2 hP hD hS hl
                  refine lv_iload_n hx hb dX1_write_47 rfl (lv_at hl 3 rfl) ?_
                  refine lv_iload_n hx hb dX1_write_48 rfl (lv_at hl 2 rfl) ?_
                  refine rn_icmp_gt (tgt := 80) hx hb (by omega) (by omega) dX1_write_49 (by decide) (fun c_49 => ?_) (fun c_49 => ?_)
                  · refine lv_aload_n hx hb dX1_write_80 rfl (lv_at hl 0 rfl) ?_
                    refine va_get (D := D) (ci := 1) (v := .int (nI (n + i))) (C := RX1) (T := TX1) (N := 9) hx hb hts hin1 hown hK hP 0 rfl rfl 6 (by decide) f26 (fun _ h9 => h9) rfl dX1_write_81 ?_
                    exact mu_iret hx hb hr hlocks hP hK hD hS (by have hi9 : i = y + 1 := (by omega); subst hi9; rw [cn_wr_yes (f := f) c_11 c_1 c_18 (by omega) (by omega) hinv1 hinv2]; exact ⟨⟨sg, ta, le, f, so, us, rc, _, sn, S, rfl, by omega, hsn, hM, rfl, rfl⟩, rfl⟩) dX1_write_84
                  · refine lv_aload_n hx hb dX1_write_52 rfl (lv_at hl 0 rfl) ?_
                    refine va_get (D := D) (ci := 1) (v := .ref md) (C := RX1) (T := TX1) (N := 9) hx hb hts hin1 hown hK hP 0 rfl rfl 5 (by decide) f19 (fun _ h9 => h9) rfl dX1_write_53 ?_
                    refine lv_aload_n hx hb dX1_write_56 rfl (lv_at hl 0 rfl) ?_
                    refine va_get (D := D) (ci := 1) (v := .int (nI (n + i))) (C := RX1) (T := TX1) (N := 9) hx hb hts hin1 hown hK hP 0 rfl rfl 6 (by decide) f26 (fun _ h9 => h9) rfl dX1_write_57 ?_
                    refine lv_iload_n hx hb dX1_write_60 rfl (lv_at hl 1 rfl) ?_
                    refine lv_iload_n hx hb dX1_write_61 rfl (lv_at hl 3 rfl) ?_
                    refine rn_iadd hx hb dX1_write_62 ?_
                    refine rn_ast hx hb hK hP hD hS 4 0 rfl hty (by omega) (by decide) dX1_write_63 (fun H locs hP hD hS => ?_)
                    have hP : va_P D vwCl ((m0, .inr (1, [.ref ms, .int (nI us), .ref mt, .ref ml, .int (nI rc), .ref md, .int (nI (n + i)), .ref mk, .int (nI sn)])) :: (ms, .inl (cI, 20000, .inl sg)) :: (mt, .inl (cI, 3001, .inl ta)) :: (ml, .inl (cI, 3001, .inl le)) :: (md, .inl (cI, 2000, .inl (upd f (n + i) (nI (x + i))))) :: (mk, .inl (cI, 20000, .inl so)) :: wr) H := hP
                    have hD : va_D A ((m0, .inr (1, [.ref ms, .int (nI us), .ref mt, .ref ml, .int (nI rc), .ref md, .int (nI (n + i)), .ref mk, .int (nI sn)])) :: (ms, .inl (cI, 20000, .inl sg)) :: (mt, .inl (cI, 3001, .inl ta)) :: (ml, .inl (cI, 3001, .inl le)) :: (md, .inl (cI, 2000, .inl (upd f (n + i) (nI (x + i))))) :: (mk, .inl (cI, 20000, .inl so)) :: wr) := hD
                    refine lv_aload_n hx hb dX1_write_64 rfl (lv_at hl 0 rfl) ?_
                    refine lv_aload_n hx hb dX1_write_65 rfl (lv_at hl 0 rfl) ?_
                    refine va_get (D := D) (ci := 1) (v := .int (nI (n + i))) (C := RX1) (T := TX1) (N := 9) hx hb hts hin1 hown hK hP 0 rfl rfl 6 (by decide) f26 (fun _ h9 => h9) rfl dX1_write_66 ?_
                    refine lv_iconst (v := nI 1) hx hb dX1_write_69 (by decide) ?_
                    refine rn_iadd hx hb dX1_write_70 ?_
                    refine va_put (D := D) (ci := 1) (v := .int (nI (n + i + 1))) (ty := .int) (C := RX1) (T := TX1) (N := 9) hx hb hts hin1 tyX1 tyX1_ok nmX1 hown hK hP hD hS 0 rfl rfl 6 (by decide) f26 (fun _ h9 => h9) rfl (by decide +kernel) rfl rfl (Nat.le_of_ble_eq_true rfl) dX1_write_71 (fun H locs hP hD hS => ?_)
                    have hP : va_P D vwCl ((m0, .inr (1, [.ref ms, .int (nI us), .ref mt, .ref ml, .int (nI rc), .ref md, .int (nI (n + i + 1)), .ref mk, .int (nI sn)])) :: (ms, .inl (cI, 20000, .inl sg)) :: (mt, .inl (cI, 3001, .inl ta)) :: (ml, .inl (cI, 3001, .inl le)) :: (md, .inl (cI, 2000, .inl (upd f (n + i) (nI (x + i))))) :: (mk, .inl (cI, 20000, .inl so)) :: wr) H := hP
                    have hD : va_D A ((m0, .inr (1, [.ref ms, .int (nI us), .ref mt, .ref ml, .int (nI rc), .ref md, .int (nI (n + i + 1)), .ref mk, .int (nI sn)])) :: (ms, .inl (cI, 20000, .inl sg)) :: (mt, .inl (cI, 3001, .inl ta)) :: (ml, .inl (cI, 3001, .inl le)) :: (md, .inl (cI, 2000, .inl (upd f (n + i) (nI (x + i))))) :: (mk, .inl (cI, 20000, .inl so)) :: wr) := hD
                    refine rn_iinc (n := 1) (lv' := [(3, .int (nI (i + 1))), (0, .ref m0), (1, .int (nI x)), (2, .int (nI y))]) hx hb dX1_write_74 hl (k := 3) rfl (by decide) rfl (fun ls hl => ?_)
                    refine lv_goto (tgt := 47) hx hb dX1_write_77 (by decide) ?_
                    exact ih (i + 1) (upd f (n + i) (nI (x + i))) H locs ls (by omega) (by omega) (fun z hz => by rw [pk_un (by omega)]; exact hinv1 z hz) (fun z hz => (Nat.lt_or_ge z i).elim (fun h => by rw [pk_un (by omega)]; exact hinv2 z h) (fun h => by rw [show z = i by omega, pk_us])) hP hD hS (lv_sub hl [1, 2, 3, 0] rfl)
              exact loop (y + 2) 0 dr s.heap [] ls (by omega) (Nat.zero_le _) (fun _ _ => rfl) (fun z hz => absurd hz (Nat.not_lt_zero z)) hP hD hS (lv_sub hl [1, 2, 3, 0] rfl)
            · refine lv_iconst (v := (-1)) hx hb dX1_write_43 (by decide) ?_
              exact mu_iret hx hb hr hlocks hP hK hD hS (by rw [cn_wr_no (by first | exact Or.inr (Or.inr (Or.inl c_1)) | exact Or.inr (Or.inr (Or.inr (Or.inl (nI_lt (a := 1114111 - g.toNatClampNeg) (by omega) hx31)))) | exact Or.inl c_11 | exact Or.inr (Or.inl (nI_lt c_18 hy31)) | exact Or.inr (Or.inr (Or.inr (Or.inl (by rw [nI_clamp hy31]; exact nI_lt (by omega) hx31)))) | exact Or.inr (Or.inr (Or.inr (Or.inr (by rw [nI_clamp hy31, sp_len]; omega)))))]; exact ⟨⟨sg, ta, le, dr, so, us, rc, n, sn, S, rfl, hn, hsn, hM, rfl, rfl⟩, rfl⟩) dX1_write_44
set_option maxHeartbeats 4000000 in
set_option maxRecDepth 100000 in
/-- part -/
theorem km_part (l : Launch) (D : va_G) {tys : List (ClassId × FieldType)} {cI : ClassId} (hty : tys[0]? = some (cI, .int)) (m0 ms mt ml md mk : Nat) (wr : va_W) (sg ta le dr so : Nat → Int32) (us rc n sn : Nat) (A : Nat → Prop) (S : Nat → Nat) (hM : md_S ta le us rc S) (hn : n ≤ 2000) (hsn : sn ≤ 20000) (k i g : Int32) : Met l yX1_part wsX1_part ({ frames := 2, cells := 0, slots := 0, locals := 48 }) (mu_Pc D vwCl (md_W cI m0 ms mt ml md mk wr sg ta le dr so us rc n sn) tys A [.ref m0, .int k, .int i, .int g]) (va_Qi (fun r w => md_Ok cI (md_W cI m0 ms mt ml md mk wr) (sp_sl dr 0 n) (sp_part (cn_rows sg S 1 rc) k i g).1 w ∧ r = (sp_part (cn_rows sg S 1 rc) k i g).2) (mu_B D vwCl tys A) A) 0 0 A := by
  refine mu_of (cc := cX1_part) (maxL := 5) (ret := some .int) (own := RX1) (by decide) rfl rfl (Nat.le_of_ble_eq_true rfl) ?_
  intro p e s m below meth c hx hb hr hts hown hlocks hml hP hK hD hS ls hl
  have hl : lv_has ls 5 [(0, .ref m0), (1, .int k), (2, .int i), (3, .int g)] := hl
  have hin1 : ∀ w ∈ u_ws RX1 TX1 9, w ∈ wsX1_part := by decide +kernel
  have f7 := hts (.fieldLink RX1 7 "NameNumbersModel" "signs" "[I") (by decide +kernel)
  have f13 := hts (.fieldLink RX1 13 "NameNumbersModel" "starts" "[I") (by decide +kernel)
  have f16 := hts (.fieldLink RX1 16 "NameNumbersModel" "lengths" "[I") (by decide +kernel)
  have f22 := hts (.fieldLink RX1 22 "NameNumbersModel" "sought" "[I") (by decide +kernel)
  have f33 := hts (.fieldLink RX1 33 "NameNumbersModel" "soughtLength" "I") (by decide +kernel)
  have hP : va_P D vwCl (md_W cI m0 ms mt ml md mk wr sg ta le dr so us rc n sn) s.heap := hP
  have hrc := hM.2.2.2.2.2
  refine lv_aload_n hx hb dX1_part_0 rfl (lv_at hl 0 rfl) ?_
  refine lv_iload_n hx hb dX1_part_1 rfl (lv_at hl 1 rfl) ?_
  refine vp_callSi (W.runV (As := [.int k]) (rest := []) ⟨hx, hb, hml, hown, hts⟩ (km_isRow l D hty m0 ms mt ml md mk wr sg ta le dr so us rc n sn hM.2.2.2.2.2 k) (cwV 1 hts gX1_part_X1_isRow rfl rfl rfl (by decide +kernel) ⟨Nat.le_of_ble_eq_true rfl, Nat.le_of_ble_eq_true rfl⟩) (pu_preV hK hP 0 rfl rfl) rfl rfl hl.1 rfl (lv_room (Nat.le_of_ble_eq_true rfl)) dX1_part_2 ⟨Nat.zero_le _, Nat.zero_le _⟩) (fun r2 er2 => ?_)
  rcases er2 with ⟨er2, hk_k⟩ | ⟨er2, hk_k⟩
  · subst er2
    obtain ⟨k', h1_k, h2_k, rfl⟩ := hk_k
    have hw_k := cn_row_yes (ch := sg) (md_R hM) h1_k h2_k
    refine lv_if_eq (tgt := 38) hx hb dX1_part_5 (by decide) (fun c_5 => absurd c_5 (by decide)) (fun c_5 => ?_)
    have htk := cn_top (md_R hM) (k := k' + 1) (by omega) (by omega)
    have hlk := hM.2.2.1 k' h1_k h2_k
    refine lv_iload_n hx hb dX1_part_8 rfl (lv_at hl 2 rfl) ?_
    refine lv_if_lt (tgt := 38) hx hb dX1_part_9 (by decide) (fun c_9 => ?_) (fun c_9 => ?_)
    · refine lv_iconst (v := (-1)) hx hb dX1_part_38 (by decide) ?_
      exact mu_iret hx hb hr hlocks hP hK hD hS (by first | (rw [sp_part, hw_k]; exact ⟨⟨sg, ta, le, dr, so, us, rc, n, sn, S, rfl, hn, hsn, hM, rfl, rfl⟩, rfl⟩) | (rw [cn_pt_some hw_k, if_pos (by rw [cn_row, sp_len]; first | exact Or.inl c_9 | exact Or.inr (Or.inr (Or.inl c_13)) | exact Or.inr (Or.inl (nI_lt c_23 hx31)) | exact Or.inr (Or.inr (Or.inr (by rw [nI_clamp hx31]; exact nI_lt c_35 hy31))))]; exact ⟨⟨sg, ta, le, dr, so, us, rc, n, sn, S, rfl, hn, hsn, hM, rfl, rfl⟩, rfl⟩)) dX1_part_39
    · obtain ⟨x, hx31, rfl⟩ := nI_of c_9
      refine lv_iload_n hx hb dX1_part_12 rfl (lv_at hl 3 rfl) ?_
      refine lv_if_lt (tgt := 38) hx hb dX1_part_13 (by decide) (fun c_13 => ?_) (fun c_13 => ?_)
      · refine lv_iconst (v := (-1)) hx hb dX1_part_38 (by decide) ?_
        exact mu_iret hx hb hr hlocks hP hK hD hS (by first | (rw [sp_part, hw_k]; exact ⟨⟨sg, ta, le, dr, so, us, rc, n, sn, S, rfl, hn, hsn, hM, rfl, rfl⟩, rfl⟩) | (rw [cn_pt_some hw_k, if_pos (by rw [cn_row, sp_len]; first | exact Or.inl c_9 | exact Or.inr (Or.inr (Or.inl c_13)) | exact Or.inr (Or.inl (nI_lt c_23 hx31)) | exact Or.inr (Or.inr (Or.inr (by rw [nI_clamp hx31]; exact nI_lt c_35 hy31))))]; exact ⟨⟨sg, ta, le, dr, so, us, rc, n, sn, S, rfl, hn, hsn, hM, rfl, rfl⟩, rfl⟩)) dX1_part_39
      · obtain ⟨y, hy31, rfl⟩ := nI_of c_13
        refine lv_iload_n hx hb dX1_part_16 rfl (lv_at hl 2 rfl) ?_
        refine lv_aload_n hx hb dX1_part_17 rfl (lv_at hl 0 rfl) ?_
        refine va_get (D := D) (ci := 1) (v := .ref ml) (C := RX1) (T := TX1) (N := 9) hx hb hts hin1 hown hK hP 0 rfl rfl 3 (by decide) f16 (fun _ h9 => h9) rfl dX1_part_18 ?_
        refine lv_iload_n hx hb dX1_part_21 rfl (lv_at hl 1 rfl) ?_
        refine rn_ald (v := nI (S (k' + 1) - S k')) hx hb hK hP 3 0 rfl hty (by have := hM.2.2.2.2.2; omega) (by decide) ((hM.2.1 k' (by omega) (by omega)).2) dX1_part_22 ?_
        refine rn_icmp_gt (tgt := 38) hx hb (by omega) (by omega) dX1_part_23 (by decide) (fun c_23 => ?_) (fun c_23 => ?_)
        · refine lv_iconst (v := (-1)) hx hb dX1_part_38 (by decide) ?_
          exact mu_iret hx hb hr hlocks hP hK hD hS (by first | (rw [sp_part, hw_k]; exact ⟨⟨sg, ta, le, dr, so, us, rc, n, sn, S, rfl, hn, hsn, hM, rfl, rfl⟩, rfl⟩) | (rw [cn_pt_some hw_k, if_pos (by rw [cn_row, sp_len]; first | exact Or.inl c_9 | exact Or.inr (Or.inr (Or.inl c_13)) | exact Or.inr (Or.inl (nI_lt c_23 hx31)) | exact Or.inr (Or.inr (Or.inr (by rw [nI_clamp hx31]; exact nI_lt c_35 hy31))))]; exact ⟨⟨sg, ta, le, dr, so, us, rc, n, sn, S, rfl, hn, hsn, hM, rfl, rfl⟩, rfl⟩)) dX1_part_39
        · refine lv_iload_n hx hb dX1_part_26 rfl (lv_at hl 3 rfl) ?_
          refine lv_aload_n hx hb dX1_part_27 rfl (lv_at hl 0 rfl) ?_
          refine va_get (D := D) (ci := 1) (v := .ref ml) (C := RX1) (T := TX1) (N := 9) hx hb hts hin1 hown hK hP 0 rfl rfl 3 (by decide) f16 (fun _ h9 => h9) rfl dX1_part_28 ?_
          refine lv_iload_n hx hb dX1_part_31 rfl (lv_at hl 1 rfl) ?_
          refine rn_ald (v := nI (S (k' + 1) - S k')) hx hb hK hP 3 0 rfl hty (by have := hM.2.2.2.2.2; omega) (by decide) ((hM.2.1 k' (by omega) (by omega)).2) dX1_part_32 ?_
          refine lv_iload_n hx hb dX1_part_33 rfl (lv_at hl 2 rfl) ?_
          refine rn_isub hx hb (by omega) dX1_part_34 ?_
          refine rn_icmp_le (tgt := 40) hx hb (by omega) (by omega) dX1_part_35 (by decide) (fun c_35 => ?_) (fun c_35 => ?_)
          · refine lv_aload_n hx hb dX1_part_40 rfl (lv_at hl 0 rfl) ?_
            refine lv_iload_n hx hb dX1_part_41 rfl (lv_at hl 3 rfl) ?_
            refine va_put (D := D) (ci := 1) (v := .int (nI y)) (ty := .int) (C := RX1) (T := TX1) (N := 9) hx hb hts hin1 tyX1 tyX1_ok nmX1 hown hK hP hD hS 0 rfl rfl 8 (by decide) f33 (fun _ h9 => h9) rfl (by decide +kernel) rfl rfl (Nat.le_of_ble_eq_true rfl) dX1_part_42 (fun H locs hP hD hS => ?_)
            have hP : va_P D vwCl ((m0, .inr (1, [.ref ms, .int (nI us), .ref mt, .ref ml, .int (nI rc), .ref md, .int (nI n), .ref mk, .int (nI y)])) :: (ms, .inl (cI, 20000, .inl sg)) :: (mt, .inl (cI, 3001, .inl ta)) :: (ml, .inl (cI, 3001, .inl le)) :: (md, .inl (cI, 2000, .inl dr)) :: (mk, .inl (cI, 20000, .inl so)) :: wr) H := hP
            have hD : va_D A ((m0, .inr (1, [.ref ms, .int (nI us), .ref mt, .ref ml, .int (nI rc), .ref md, .int (nI n), .ref mk, .int (nI y)])) :: (ms, .inl (cI, 20000, .inl sg)) :: (mt, .inl (cI, 3001, .inl ta)) :: (ml, .inl (cI, 3001, .inl le)) :: (md, .inl (cI, 2000, .inl dr)) :: (mk, .inl (cI, 20000, .inl so)) :: wr) := hD
            refine lv_iconst (v := nI 0) hx hb dX1_part_45 (by decide) ?_
            refine lv_istore (lv' := [(4, .int (nI 0)), (0, .ref m0), (1, .int (nI k')), (2, .int (nI x)), (3, .int (nI y))]) hx hb dX1_part_46 hl (by decide) rfl (fun ls hl => ?_)
            have loop : ∀ (j : Nat) (t : Nat) (f : Nat → Int32) (H : Heap) (locs : List Loc) (ls : Array Slot), y + 1 ≤ t + j → t ≤ y → (∀ z, z < t → f z = sg (S k' + x + z)) → va_P D vwCl (md_W cI m0 ms mt ml md mk wr sg ta le dr f us rc n y) H → va_D A (md_W cI m0 ms mt ml md mk wr sg ta le dr f us rc n y) → va_S A s.heap H locs → lv_has ls 5 [(0, .ref m0), (1, .int (nI k')), (2, .int (nI x)), (3, .int (nI y)), (4, .int (nI t))] → W p l e { frames := 2, cells := 0, slots := 0, locals := 48 } s m [.ref m0, .int (nI k'), .int (nI x), .int (nI y)].toArray below meth c H locs 0 0 (MQ below (va_Qi (fun r w => md_Ok cI (md_W cI m0 ms mt ml md mk wr) (sp_sl dr 0 n) (sp_part (cn_rows sg S 1 rc) (nI k') (nI x) (nI y)).1 w ∧ r = (sp_part (cn_rows sg S 1 rc) (nI k') (nI x) (nI y)).2) (mu_B D vwCl tys A) A) [.ref m0, .int (nI k'), .int (nI x), .int (nI y)].toArray s 0 0 A) (F0 m 48 ls []) := by
              intro j
              induction j with
              | zero => intro t f H locs ls hj ht hinv hP hD hS hl; exfalso; omega
              | succ j ih =>
                intro t f H locs ls hj ht hinv hP hD hS hl
                refine lv_iload hx hb dX1_part_48 (lv_at hl 4 rfl) ?_
                refine lv_iload_n hx hb dX1_part_50 rfl (lv_at hl 3 rfl) ?_
                refine rn_icmp_ge (tgt := 83) hx hb (by omega) (by omega) dX1_part_51 (by decide) (fun c_51 => ?_) (fun c_51 => ?_)
                · obtain rfl : t = y := by omega
                  have hso : sp_sl f 0 t = sp_sl sg (S k' + x) t := sp_ext (fun z hz => by rw [Nat.zero_add]; exact hinv z hz)
                  refine lv_aload_n hx hb dX1_part_83 rfl (lv_at hl 0 rfl) ?_
                  refine mu_calli (va_runV (As := []) (rest := []) ⟨hx, hb, hml, hown, hts⟩ (km_get l D hty m0 ms mt ml md mk wr sg ta le dr f us rc n t A S hM hn (by omega)) (cwV 0 hts gX1_part_X1_get rfl rfl rfl (by decide +kernel) ⟨Nat.le_of_ble_eq_true rfl, Nat.le_of_ble_eq_true rfl⟩) (mu_preV hK hP hD 0 rfl rfl) rfl rfl hl.1 rfl (lv_room (Nat.le_of_ble_eq_true rfl)) dX1_part_84 ⟨Nat.zero_le _, Nat.zero_le _⟩) hS (fun r84 w_84 H locs er84 hP hD hS => ?_)
                  obtain ⟨sg', ta', le', us', rc', S', rfl, hM', hsp⟩ := er84
                  exact mu_iret hx hb hr hlocks hP hK hD hS (by rw [cn_pt_some hw_k, if_neg (cn_pt_no c_9 c_13 hx31 hy31 c_23 c_35 (by omega)), cn_pt_row hx31 hy31 c_23 c_35, ← hso, hsp]; exact ⟨⟨sg', ta', le', dr, f, us', rc', n, _, S', rfl, hn, by omega, hM', rfl, rfl⟩, rfl⟩) dX1_part_87
                · refine lv_aload_n hx hb dX1_part_54 rfl (lv_at hl 0 rfl) ?_
                  refine va_get (D := D) (ci := 1) (v := .ref mk) (C := RX1) (T := TX1) (N := 9) hx hb hts hin1 hown hK hP 0 rfl rfl 7 (by decide) f22 (fun _ h9 => h9) rfl dX1_part_55 ?_
                  refine lv_iload hx hb dX1_part_58 (lv_at hl 4 rfl) ?_
                  refine lv_aload_n hx hb dX1_part_60 rfl (lv_at hl 0 rfl) ?_
                  refine va_get (D := D) (ci := 1) (v := .ref ms) (C := RX1) (T := TX1) (N := 9) hx hb hts hin1 hown hK hP 0 rfl rfl 0 (by decide) f7 (fun _ h9 => h9) rfl dX1_part_61 ?_
                  refine lv_aload_n hx hb dX1_part_64 rfl (lv_at hl 0 rfl) ?_
                  refine va_get (D := D) (ci := 1) (v := .ref mt) (C := RX1) (T := TX1) (N := 9) hx hb hts hin1 hown hK hP 0 rfl rfl 2 (by decide) f13 (fun _ h9 => h9) rfl dX1_part_65 ?_
                  refine lv_iload_n hx hb dX1_part_68 rfl (lv_at hl 1 rfl) ?_
                  refine rn_ald (v := nI (S k')) hx hb hK hP 2 0 rfl hty (by have := hM.2.2.2.2.2; omega) (by decide) ((hM.2.1 k' (by omega) (by omega)).1) dX1_part_69 ?_
                  refine lv_iload_n hx hb dX1_part_70 rfl (lv_at hl 2 rfl) ?_
                  refine rn_iadd hx hb dX1_part_71 ?_
                  refine lv_iload hx hb dX1_part_72 (lv_at hl 4 rfl) ?_
                  refine rn_iadd hx hb dX1_part_74 ?_
                  refine rn_ald (v := sg (S k' + x + t)) hx hb hK hP 1 0 rfl hty (by omega) (by decide) (rfl) dX1_part_75 ?_
                  refine rn_ast hx hb hK hP hD hS 5 0 rfl hty (by omega) (by decide) dX1_part_76 (fun H locs hP hD hS => ?_)
                  have hP : va_P D vwCl ((m0, .inr (1, [.ref ms, .int (nI us), .ref mt, .ref ml, .int (nI rc), .ref md, .int (nI n), .ref mk, .int (nI y)])) :: (ms, .inl (cI, 20000, .inl sg)) :: (mt, .inl (cI, 3001, .inl ta)) :: (ml, .inl (cI, 3001, .inl le)) :: (md, .inl (cI, 2000, .inl dr)) :: (mk, .inl (cI, 20000, .inl (upd f t (sg (S k' + x + t))))) :: wr) H := hP
                  have hD : va_D A ((m0, .inr (1, [.ref ms, .int (nI us), .ref mt, .ref ml, .int (nI rc), .ref md, .int (nI n), .ref mk, .int (nI y)])) :: (ms, .inl (cI, 20000, .inl sg)) :: (mt, .inl (cI, 3001, .inl ta)) :: (ml, .inl (cI, 3001, .inl le)) :: (md, .inl (cI, 2000, .inl dr)) :: (mk, .inl (cI, 20000, .inl (upd f t (sg (S k' + x + t))))) :: wr) := hD
                  refine rn_iinc (n := 1) (lv' := [(4, .int (nI (t + 1))), (0, .ref m0), (1, .int (nI k')), (2, .int (nI x)), (3, .int (nI y))]) hx hb dX1_part_77 hl (k := 4) rfl (by decide) rfl (fun ls hl => ?_)
                  refine lv_goto (tgt := 48) hx hb dX1_part_80 (by decide) ?_
                  exact ih (t + 1) (upd f t (sg (S k' + x + t))) H locs ls (by omega) (by omega) (fun z hz => (Nat.lt_or_ge z t).elim (fun h => by rw [pk_un (by omega)]; exact hinv z h) (fun h => by rw [show z = t by omega, pk_us])) hP hD hS (lv_sub hl [1, 2, 3, 4, 0] rfl)
            exact loop (y + 1) 0 so H locs ls (by omega) (Nat.zero_le _) (fun z hz => absurd hz (Nat.not_lt_zero z)) hP hD hS (lv_sub hl [1, 2, 3, 4, 0] rfl)
          · refine lv_iconst (v := (-1)) hx hb dX1_part_38 (by decide) ?_
            exact mu_iret hx hb hr hlocks hP hK hD hS (by first | (rw [sp_part, hw_k]; exact ⟨⟨sg, ta, le, dr, so, us, rc, n, sn, S, rfl, hn, hsn, hM, rfl, rfl⟩, rfl⟩) | (rw [cn_pt_some hw_k, if_pos (by rw [cn_row, sp_len]; first | exact Or.inl c_9 | exact Or.inr (Or.inr (Or.inl c_13)) | exact Or.inr (Or.inl (nI_lt c_23 hx31)) | exact Or.inr (Or.inr (Or.inr (by rw [nI_clamp hx31]; exact nI_lt c_35 hy31))))]; exact ⟨⟨sg, ta, le, dr, so, us, rc, n, sn, S, rfl, hn, hsn, hM, rfl, rfl⟩, rfl⟩)) dX1_part_39
  · subst er2
    have hw_k := cn_row_no (ch := sg) (md_R hM) hk_k
    refine lv_if_eq (tgt := 38) hx hb dX1_part_5 (by decide) (fun c_5 => ?_) (fun c_5 => absurd c_5 (not_not_intro (by decide)))
    refine lv_iconst (v := (-1)) hx hb dX1_part_38 (by decide) ?_
    exact mu_iret hx hb hr hlocks hP hK hD hS (by first | (rw [sp_part, hw_k]; exact ⟨⟨sg, ta, le, dr, so, us, rc, n, sn, S, rfl, hn, hsn, hM, rfl, rfl⟩, rfl⟩) | (rw [cn_pt_some hw_k, if_pos (by rw [cn_row, sp_len]; first | exact Or.inl c_9 | exact Or.inr (Or.inr (Or.inl c_13)) | exact Or.inr (Or.inl (nI_lt c_23 hx31)) | exact Or.inr (Or.inr (Or.inr (by rw [nI_clamp hx31]; exact nI_lt c_35 hy31))))]; exact ⟨⟨sg, ta, le, dr, so, us, rc, n, sn, S, rfl, hn, hsn, hM, rfl, rfl⟩, rfl⟩)) dX1_part_39
