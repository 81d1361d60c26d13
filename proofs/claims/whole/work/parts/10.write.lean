set_option maxHeartbeats 4000000 in
set_option maxRecDepth 100000 in
/-- write -/
theorem kx_write (l : Launch) (D : va_G) {tys : List (ClassId × FieldType)} {cI : ClassId} (hty : tys[0]? = some (cI, .int)) (h0 hd hc hs : Nat) (wr : va_W) (dr ch st : Nat → Int32) (n rc : Nat) (A : Nat → Prop) (S : Nat → Nat) (hR : cn_S st rc S) (hn : n ≤ 2000) (q g : Int32) : Met l yX0_write wsX0_write ({ frames := 0, cells := 0, slots := 0, locals := 0 }) (mu_Pc D vwCl (cn_W cI h0 hd hc hs wr dr ch st n rc) tys A [.ref h0, .int q, .int g]) (va_Qi (fun r w => cn_Ok cI h0 hd hc hs wr (sp_write (sp_sl dr 0 n) q g).1 (cn_rows ch S 1 rc) w ∧ r = (sp_write (sp_sl dr 0 n) q g).2) (mu_B D vwCl tys A) A) 0 0 A := by
  refine mu_of (cc := cX0_write) (maxL := 4) (ret := some .int) (own := RX0) (by decide) rfl rfl (Nat.le_of_ble_eq_true rfl) ?_
  intro p e s m below meth c hx hb hr hts hown hlocks hml hP hK hD hS ls hl
  have hl : lv_has ls 4 [(0, .ref h0), (1, .int q), (2, .int g)] := hl
  have hin0 : ∀ w ∈ u_ws RX0 TX0 5, w ∈ wsX0_write := by decide +kernel
  have f9 := hts (.fieldLink RX0 9 "NameNumbers" "draft" "[I") (by decide +kernel)
  have f13 := hts (.fieldLink RX0 13 "NameNumbers" "draftLength" "I") (by decide +kernel)
  have hP : va_P D vwCl (cn_W cI h0 hd hc hs wr dr ch st n rc) s.heap := hP
  refine lv_iload_n hx hb dX0_write_0 rfl (lv_at hl 2 rfl) ?_
  refine lv_if_lt (tgt := 11) hx hb dX0_write_1 (by decide) (fun c_1 => ?_) (fun c_1 => ?_)
  · refine lv_iconst (v := (-1)) hx hb dX0_write_11 (by decide) ?_
    exact mu_iret hx hb hr hlocks hP hK hD hS (by rw [cn_wr_no (by first | exact Or.inl c_1 | exact Or.inr (Or.inl (nI_lt c_8 hy31)))]; exact ⟨⟨dr, ch, st, n, rc, S, rfl, hn, hR, rfl, rfl⟩, rfl⟩) dX0_write_12
  · obtain ⟨y, hy31, rfl⟩ := nI_of c_1
    refine lv_iload_n hx hb dX0_write_4 rfl (lv_at hl 2 rfl) ?_
    refine lv_sipush (v := nI 500) hx hb dX0_write_5 (by decide) ?_
    refine rn_icmp_le (tgt := 13) hx hb (by omega) (by omega) dX0_write_8 (by decide) (fun c_8 => ?_) (fun c_8 => ?_)
    · refine lv_iload_n hx hb dX0_write_13 rfl (lv_at hl 1 rfl) ?_
      refine lv_if_lt (tgt := 25) hx hb dX0_write_14 (by decide) (fun c_14 => ?_) (fun c_14 => ?_)
      · refine lv_iconst (v := (-1)) hx hb dX0_write_25 (by decide) ?_
        exact mu_iret hx hb hr hlocks hP hK hD hS (by rw [cn_wr_no (Or.inr (Or.inr (by first | exact Or.inl c_14 | exact Or.inr (Or.inl (by rw [nI_clamp hy31]; exact nI_lt c_22 hx31)))))]; exact ⟨⟨dr, ch, st, n, rc, S, rfl, hn, hR, rfl, rfl⟩, rfl⟩) dX0_write_26
      · obtain ⟨x, hx31, rfl⟩ := nI_of c_14
        refine lv_iload_n hx hb dX0_write_17 rfl (lv_at hl 1 rfl) ?_
        refine lv_ldc (v := nI 1114111) hx hb hown (hts (.constant RX0 26 (nI 1114111)) (by decide +kernel)) dX0_write_18 ?_
        refine lv_iload_n hx hb dX0_write_20 rfl (lv_at hl 2 rfl) ?_
        refine rn_isub hx hb (by omega) dX0_write_21 ?_
        refine rn_icmp_le (tgt := 27) hx hb (by omega) (by omega) dX0_write_22 (by decide) (fun c_22 => ?_) (fun c_22 => ?_)
        · refine lv_iload_n hx hb dX0_write_27 rfl (lv_at hl 2 rfl) ?_
          refine lv_iconst (v := nI 1) hx hb dX0_write_28 (by decide) ?_
          refine rn_iadd hx hb dX0_write_29 ?_
          refine lv_sipush (v := nI 2000) hx hb dX0_write_30 (by decide) ?_
          refine lv_aload_n hx hb dX0_write_33 rfl (lv_at hl 0 rfl) ?_
          refine va_get (D := D) (ci := 0) (v := .int (nI n)) (C := RX0) (T := TX0) (N := 5) hx hb hts hin0 hown hK hP 0 rfl rfl 1 (by decide) f13 (fun _ h9 => h9) rfl dX0_write_34 ?_
          refine rn_isub hx hb (by omega) dX0_write_37 ?_
          refine rn_icmp_le (tgt := 43) hx hb (by omega) (by omega) dX0_write_38 (by decide) (fun c_38 => ?_) (fun c_38 => ?_)
          · refine lv_iconst (v := nI 0) hx hb dX0_write_43 (by decide) ?_
            refine lv_istore_n (lv' := [(3, .int (nI 0)), (0, .ref h0), (1, .int (nI x)), (2, .int (nI y))]) hx hb dX0_write_44 rfl hl (by decide) rfl (fun ls hl => ?_)
            have loop : ∀ (j : Nat) (i : Nat) (f : Nat → Int32) (H : Heap) (locs : List Loc) (ls : Array Slot), y + 2 ≤ i + j → i ≤ y + 1 → (∀ z, z < n → f z = dr z) → (∀ z, z < i → f (n + z) = nI (x + z)) → va_P D vwCl (cn_W cI h0 hd hc hs wr f ch st n rc) H → va_D A (cn_W cI h0 hd hc hs wr f ch st n rc) → va_S A s.heap H locs → lv_has ls 4 [(0, .ref h0), (1, .int (nI x)), (2, .int (nI y)), (3, .int (nI i))] → W p l e { frames := 0, cells := 0, slots := 0, locals := 0 } s m [.ref h0, .int (nI x), .int (nI y)].toArray below meth c H locs 0 0 (MQ below (va_Qi (fun r w => cn_Ok cI h0 hd hc hs wr (sp_write (sp_sl dr 0 n) (nI x) (nI y)).1 (cn_rows ch S 1 rc) w ∧ r = (sp_write (sp_sl dr 0 n) (nI x) (nI y)).2) (mu_B D vwCl tys A) A) [.ref h0, .int (nI x), .int (nI y)].toArray s 0 0 A) (F0 m 45 ls []) := by
              intro j
              induction j with
              | zero => intro i f H locs ls hj hi hinv1 hinv2 hP hD hS hl; exfalso; omega
              | succ j ih =>
                intro i f H locs ls hj hi hinv1 hinv2 hP hD hS hl
                refine lv_iload_n hx hb dX0_write_45 rfl (lv_at hl 3 rfl) ?_
                refine lv_iload_n hx hb dX0_write_46 rfl (lv_at hl 2 rfl) ?_
                refine rn_icmp_gt (tgt := 70) hx hb (by omega) (by omega) dX0_write_47 (by decide) (fun c_47 => ?_) (fun c_47 => ?_)
                · refine lv_aload_n hx hb dX0_write_70 rfl (lv_at hl 0 rfl) ?_
                  refine lv_dup hx hb dX0_write_71 rfl ?_
                  refine va_get (D := D) (ci := 0) (v := .int (nI n)) (C := RX0) (T := TX0) (N := 5) hx hb hts hin0 hown hK hP 0 rfl rfl 1 (by decide) f13 (fun _ h9 => h9) rfl dX0_write_72 ?_
                  refine lv_iload_n hx hb dX0_write_75 rfl (lv_at hl 2 rfl) ?_
                  refine lv_iconst (v := nI 1) hx hb dX0_write_76 (by decide) ?_
                  refine rn_iadd hx hb dX0_write_77 ?_
                  refine rn_iadd hx hb dX0_write_78 ?_
                  refine va_put (D := D) (ci := 0) (v := .int (nI (n + (y + 1)))) (ty := .int) (C := RX0) (T := TX0) (N := 5) hx hb hts hin0 tyX0 tyX0_ok nmX0 hown hK hP hD hS 0 rfl rfl 1 (by decide) f13 (fun _ h9 => h9) rfl (by decide +kernel) rfl rfl (Nat.le_of_ble_eq_true rfl) dX0_write_79 (fun H locs hP hD hS => ?_)
                  have hP : va_P D vwCl ((h0, .inr (0, [.ref hd, .int (nI (n + (y + 1))), .ref hc, .ref hs, .int (nI rc)])) :: (hd, .inl (cI, 2000, .inl f)) :: (hc, .inl (cI, 20000, .inl ch)) :: (hs, .inl (cI, 3002, .inl st)) :: wr) H := hP
                  have hD : va_D A ((h0, .inr (0, [.ref hd, .int (nI (n + (y + 1))), .ref hc, .ref hs, .int (nI rc)])) :: (hd, .inl (cI, 2000, .inl f)) :: (hc, .inl (cI, 20000, .inl ch)) :: (hs, .inl (cI, 3002, .inl st)) :: wr) := hD
                  refine lv_aload_n hx hb dX0_write_82 rfl (lv_at hl 0 rfl) ?_
                  refine va_get (D := D) (ci := 0) (v := .int (nI (n + (y + 1)))) (C := RX0) (T := TX0) (N := 5) hx hb hts hin0 hown hK hP 0 rfl rfl 1 (by decide) f13 (fun _ h9 => h9) rfl dX0_write_83 ?_
                  exact mu_iret hx hb hr hlocks hP hK hD hS (by rw [cn_wr_yes (f := f) c_1 c_14 c_8 c_22 (by omega) (fun z hz => hinv1 z hz) (fun z hz => hinv2 z (by omega))]; exact ⟨⟨f, ch, st, _, rc, S, rfl, by omega, hR, rfl, rfl⟩, rfl⟩) dX0_write_86
                · refine lv_aload_n hx hb dX0_write_50 rfl (lv_at hl 0 rfl) ?_
                  refine va_get (D := D) (ci := 0) (v := .ref hd) (C := RX0) (T := TX0) (N := 5) hx hb hts hin0 hown hK hP 0 rfl rfl 0 (by decide) f9 (fun _ h9 => h9) rfl dX0_write_51 ?_
                  refine lv_aload_n hx hb dX0_write_54 rfl (lv_at hl 0 rfl) ?_
                  refine va_get (D := D) (ci := 0) (v := .int (nI n)) (C := RX0) (T := TX0) (N := 5) hx hb hts hin0 hown hK hP 0 rfl rfl 1 (by decide) f13 (fun _ h9 => h9) rfl dX0_write_55 ?_
                  refine lv_iload_n hx hb dX0_write_58 rfl (lv_at hl 3 rfl) ?_
                  refine rn_iadd hx hb dX0_write_59 ?_
                  refine lv_iload_n hx hb dX0_write_60 rfl (lv_at hl 1 rfl) ?_
                  refine lv_iload_n hx hb dX0_write_61 rfl (lv_at hl 3 rfl) ?_
                  refine rn_iadd hx hb dX0_write_62 ?_
                  refine rn_ast hx hb hK hP hD hS 1 0 rfl hty (by omega) (by decide) dX0_write_63 (fun H locs hP hD hS => ?_)
                  have hP : va_P D vwCl ((h0, .inr (0, [.ref hd, .int (nI n), .ref hc, .ref hs, .int (nI rc)])) :: (hd, .inl (cI, 2000, .inl (upd f (n + i) (nI (x + i))))) :: (hc, .inl (cI, 20000, .inl ch)) :: (hs, .inl (cI, 3002, .inl st)) :: wr) H := hP
                  have hD : va_D A ((h0, .inr (0, [.ref hd, .int (nI n), .ref hc, .ref hs, .int (nI rc)])) :: (hd, .inl (cI, 2000, .inl (upd f (n + i) (nI (x + i))))) :: (hc, .inl (cI, 20000, .inl ch)) :: (hs, .inl (cI, 3002, .inl st)) :: wr) := hD
                  refine rn_iinc (n := 1) (lv' := [(3, .int (nI (i + 1))), (0, .ref h0), (1, .int (nI x)), (2, .int (nI y))]) hx hb dX0_write_64 hl (k := 3) rfl (by decide) rfl (fun ls hl => ?_)
                  refine lv_goto (tgt := 45) hx hb dX0_write_67 (by decide) ?_
                  exact ih (i + 1) (upd f (n + i) (nI (x + i))) H locs ls (by omega) (by omega) (fun z hz => by rw [pk_un (by omega)]; exact hinv1 z hz) (fun z hz => (Nat.lt_or_ge z i).elim (fun h => by rw [pk_un (by omega)]; exact hinv2 z h) (fun h => by rw [show z = i by omega, pk_us])) hP hD hS (lv_sub hl [1, 2, 3, 0] rfl)
            exact loop (y + 2) 0 dr s.heap [] ls (by omega) (Nat.zero_le _) (fun _ _ => rfl) (fun z hz => absurd hz (Nat.not_lt_zero z)) hP hD hS (lv_sub hl [1, 2, 3, 0] rfl)
          · refine lv_iconst (v := (-1)) hx hb dX0_write_41 (by decide) ?_
            exact mu_iret hx hb hr hlocks hP hK hD hS (by rw [cn_wr_no (Or.inr (Or.inr (Or.inr (Or.inr (by rw [nI_clamp hy31, sp_len]; omega)))))]; exact ⟨⟨dr, ch, st, n, rc, S, rfl, hn, hR, rfl, rfl⟩, rfl⟩) dX0_write_42
        · refine lv_iconst (v := (-1)) hx hb dX0_write_25 (by decide) ?_
          exact mu_iret hx hb hr hlocks hP hK hD hS (by rw [cn_wr_no (Or.inr (Or.inr (by first | exact Or.inl c_14 | exact Or.inr (Or.inl (by rw [nI_clamp hy31]; exact nI_lt c_22 hx31)))))]; exact ⟨⟨dr, ch, st, n, rc, S, rfl, hn, hR, rfl, rfl⟩, rfl⟩) dX0_write_26
    · refine lv_iconst (v := (-1)) hx hb dX0_write_11 (by decide) ?_
      exact mu_iret hx hb hr hlocks hP hK hD hS (by rw [cn_wr_no (by first | exact Or.inl c_1 | exact Or.inr (Or.inl (nI_lt c_8 hy31)))]; exact ⟨⟨dr, ch, st, n, rc, S, rfl, hn, hR, rfl, rfl⟩, rfl⟩) dX0_write_12
