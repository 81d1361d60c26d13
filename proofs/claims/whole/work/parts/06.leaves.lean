abbrev cn_W (cI : ClassId) (h0 hd hc hs : Nat) (wr : va_W) (dr ch st : Nat → Int32) (n rc : Nat) : va_W := (h0, .inr (0, [.ref hd, .int (nI n), .ref hc, .ref hs, .int (nI rc)])) :: (hd, .inl (cI, 2000, .inl dr)) :: (hc, .inl (cI, 20000, .inl ch)) :: (hs, .inl (cI, 3002, .inl st)) :: wr
set_option maxHeartbeats 4000000 in
set_option maxRecDepth 100000 in
/-- lengthOf -/
theorem kx_lengthOf (l : Launch) (D : va_G) {tys : List (ClassId × FieldType)} {cI : ClassId} (hty : tys[0]? = some (cI, .int)) (h0 hd hc hs : Nat) (wr : va_W) (dr ch st : Nat → Int32) (n rc : Nat) (S : Nat → Nat) (hR : cn_S st rc S) (k : Nat) (hk1 : 1 ≤ k) (hk2 : k ≤ rc) : Met l yX0_lengthOf wsX0_lengthOf ({ frames := 0, cells := 0, slots := 0, locals := 0 }) (pu_Pc D vwCl (cn_W cI h0 hd hc hs wr dr ch st n rc) tys [.ref h0, .int (nI k)]) (vp_Si (fun r => r = nI (S (k + 1) - S k))) 0 0 (fun _ => False) := by
  refine pu_of (cc := cX0_lengthOf) (maxL := 2) (ret := some .int) (own := RX0) (by decide) rfl rfl (Nat.le_of_ble_eq_true rfl) ?_
  intro p e s m below meth c hx hb hr hts hown hlocks hml hP hK ls hl
  have hl : lv_has ls 2 [(0, .ref h0), (1, .int (nI k))] := hl
  have hin0 : ∀ w ∈ u_ws RX0 TX0 5, w ∈ wsX0_lengthOf := by decide +kernel
  have f20 := hts (.fieldLink RX0 20 "NameNumbers" "starts" "[I") (by decide +kernel)
  refine lv_aload_n hx hb dX0_lengthOf_0 rfl (lv_at hl 0 rfl) ?_
  refine va_get (D := D) (ci := 0) (v := .ref hs) (C := RX0) (T := TX0) (N := 5) hx hb hts hin0 hown hK hP 0 rfl rfl 3 (by decide) f20 (fun _ h9 => h9) rfl dX0_lengthOf_1 ?_
  refine lv_iload_n hx hb dX0_lengthOf_4 rfl (lv_at hl 1 rfl) ?_
  refine lv_iconst (v := nI 1) hx hb dX0_lengthOf_5 (by decide) ?_
  refine rn_iadd hx hb dX0_lengthOf_6 ?_
  refine rn_ald (v := nI (S (k + 1))) hx hb hK hP 3 0 rfl hty (by have := hR.2.2.2.2; omega) (by decide) (hR.2.1 _ (by omega) (by omega)) dX0_lengthOf_7 ?_
  refine lv_aload_n hx hb dX0_lengthOf_8 rfl (lv_at hl 0 rfl) ?_
  refine va_get (D := D) (ci := 0) (v := .ref hs) (C := RX0) (T := TX0) (N := 5) hx hb hts hin0 hown hK hP 0 rfl rfl 3 (by decide) f20 (fun _ h9 => h9) rfl dX0_lengthOf_9 ?_
  refine lv_iload_n hx hb dX0_lengthOf_12 rfl (lv_at hl 1 rfl) ?_
  refine rn_ald (v := nI (S k)) hx hb hK hP 3 0 rfl hty (by have := hR.2.2.2.2; omega) (by decide) (hR.2.1 _ (by omega) (by omega)) dX0_lengthOf_13 ?_
  refine rn_isub hx hb (hR.2.2.1 k hk1 hk2) dX0_lengthOf_14 ?_
  exact pu_iret hx hb hr hlocks (rfl) dX0_lengthOf_15
set_option maxHeartbeats 4000000 in
set_option maxRecDepth 100000 in
/-- isRow -/
theorem kx_isRow (l : Launch) (D : va_G) {tys : List (ClassId × FieldType)} {cI : ClassId} (hty : tys[0]? = some (cI, .int)) (h0 hd hc hs : Nat) (wr : va_W) (dr ch st : Nat → Int32) (n rc : Nat) (hrc : rc ≤ 3000) (k : Int32) : Met l yX0_isRow wsX0_isRow ({ frames := 0, cells := 0, slots := 0, locals := 0 }) (pu_Pc D vwCl (cn_W cI h0 hd hc hs wr dr ch st n rc) tys [.ref h0, .int k]) (vp_Si (fun r => (r = nI 1 ∧ cn_is rc k) ∨ (r = nI 0 ∧ ¬ cn_is rc k))) 0 0 (fun _ => False) := by
  refine pu_of (cc := cX0_isRow) (maxL := 2) (ret := some .boolean) (own := RX0) (by decide) rfl rfl (Nat.le_of_ble_eq_true rfl) ?_
  intro p e s m below meth c hx hb hr hts hown hlocks hml hP hK ls hl
  have hl : lv_has ls 2 [(0, .ref h0), (1, .int k)] := hl
  have hin0 : ∀ w ∈ u_ws RX0 TX0 5, w ∈ wsX0_isRow := by decide +kernel
  have f23 := hts (.fieldLink RX0 23 "NameNumbers" "rowCount" "I") (by decide +kernel)
  refine lv_iload_n hx hb dX0_isRow_0 rfl (lv_at hl 1 rfl) ?_
  refine lv_iconst (v := nI 1) hx hb dX0_isRow_1 (by decide) ?_
  refine lv_icmp_lt (tgt := 17) hx hb dX0_isRow_2 (by decide) (fun c_2 => ?_) (fun c_2 => ?_)
  · refine lv_iconst (v := nI 0) hx hb dX0_isRow_17 (by decide) ?_
    exact pu_zret hx hb hr hlocks (by decide) (Or.inr ⟨rfl, by first | exact cn_is_lo hrc c_2 | exact cn_is_hi hrc c_10⟩) dX0_isRow_18
  · refine lv_iload_n hx hb dX0_isRow_5 rfl (lv_at hl 1 rfl) ?_
    refine lv_aload_n hx hb dX0_isRow_6 rfl (lv_at hl 0 rfl) ?_
    refine va_get (D := D) (ci := 0) (v := .int (nI rc)) (C := RX0) (T := TX0) (N := 5) hx hb hts hin0 hown hK hP 0 rfl rfl 4 (by decide) f23 (fun _ h9 => h9) rfl dX0_isRow_7 ?_
    refine lv_icmp_gt (tgt := 17) hx hb dX0_isRow_10 (by decide) (fun c_10 => ?_) (fun c_10 => ?_)
    · refine lv_iconst (v := nI 0) hx hb dX0_isRow_17 (by decide) ?_
      exact pu_zret hx hb hr hlocks (by decide) (Or.inr ⟨rfl, by first | exact cn_is_lo hrc c_2 | exact cn_is_hi hrc c_10⟩) dX0_isRow_18
    · refine lv_iconst (v := nI 1) hx hb dX0_isRow_13 (by decide) ?_
      refine lv_goto (tgt := 18) hx hb dX0_isRow_14 (by decide) ?_
      exact pu_zret hx hb hr hlocks (by decide) (Or.inl ⟨rfl, cn_is_yes hrc c_2 c_10⟩) dX0_isRow_18
set_option maxHeartbeats 4000000 in
set_option maxRecDepth 100000 in
/-- hasRoomFor -/
theorem kx_hasRoomFor (l : Launch) (D : va_G) {tys : List (ClassId × FieldType)} {cI : ClassId} (hty : tys[0]? = some (cI, .int)) (h0 hd hc hs : Nat) (wr : va_W) (dr ch st : Nat → Int32) (n rc : Nat) (S : Nat → Nat) (hR : cn_S st rc S) (n2 : Nat) (hn2 : n2 ≤ 20000) : Met l yX0_hasRoomFor wsX0_hasRoomFor ({ frames := 0, cells := 0, slots := 0, locals := 0 }) (pu_Pc D vwCl (cn_W cI h0 hd hc hs wr dr ch st n rc) tys [.ref h0, .int (nI n2)]) (vp_Si (fun r => (r = nI 1 ∧ (rc < 3000 ∧ n2 + S (rc + 1) ≤ 20000)) ∨ (r = nI 0 ∧ ¬ (rc < 3000 ∧ n2 + S (rc + 1) ≤ 20000)))) 0 0 (fun _ => False) := by
  refine pu_of (cc := cX0_hasRoomFor) (maxL := 2) (ret := some .boolean) (own := RX0) (by decide) rfl rfl (Nat.le_of_ble_eq_true rfl) ?_
  intro p e s m below meth c hx hb hr hts hown hlocks hml hP hK ls hl
  have hl : lv_has ls 2 [(0, .ref h0), (1, .int (nI n2))] := hl
  have hin0 : ∀ w ∈ u_ws RX0 TX0 5, w ∈ wsX0_hasRoomFor := by decide +kernel
  have f20 := hts (.fieldLink RX0 20 "NameNumbers" "starts" "[I") (by decide +kernel)
  have f23 := hts (.fieldLink RX0 23 "NameNumbers" "rowCount" "I") (by decide +kernel)
  refine lv_aload_n hx hb dX0_hasRoomFor_0 rfl (lv_at hl 0 rfl) ?_
  refine va_get (D := D) (ci := 0) (v := .int (nI rc)) (C := RX0) (T := TX0) (N := 5) hx hb hts hin0 hown hK hP 0 rfl rfl 4 (by decide) f23 (fun _ h9 => h9) rfl dX0_hasRoomFor_1 ?_
  refine lv_sipush (v := nI 3000) hx hb dX0_hasRoomFor_4 (by decide) ?_
  refine rn_icmp_ge (tgt := 33) hx hb (by have := hR.2.2.2.2; omega) (by have := hR.2.2.2.2; omega) dX0_hasRoomFor_7 (by decide) (fun c_7 => ?_) (fun c_7 => ?_)
  · refine lv_iconst (v := nI 0) hx hb dX0_hasRoomFor_33 (by decide) ?_
    exact pu_zret hx hb hr hlocks (by decide) (Or.inr ⟨rfl, by have := hR.2.2.2.1; omega⟩) dX0_hasRoomFor_34
  · refine lv_iload_n hx hb dX0_hasRoomFor_10 rfl (lv_at hl 1 rfl) ?_
    refine lv_sipush (v := nI 20000) hx hb dX0_hasRoomFor_11 (by decide) ?_
    refine lv_aload_n hx hb dX0_hasRoomFor_14 rfl (lv_at hl 0 rfl) ?_
    refine va_get (D := D) (ci := 0) (v := .ref hs) (C := RX0) (T := TX0) (N := 5) hx hb hts hin0 hown hK hP 0 rfl rfl 3 (by decide) f20 (fun _ h9 => h9) rfl dX0_hasRoomFor_15 ?_
    refine lv_aload_n hx hb dX0_hasRoomFor_18 rfl (lv_at hl 0 rfl) ?_
    refine va_get (D := D) (ci := 0) (v := .int (nI rc)) (C := RX0) (T := TX0) (N := 5) hx hb hts hin0 hown hK hP 0 rfl rfl 4 (by decide) f23 (fun _ h9 => h9) rfl dX0_hasRoomFor_19 ?_
    refine lv_iconst (v := nI 1) hx hb dX0_hasRoomFor_22 (by decide) ?_
    refine rn_iadd hx hb dX0_hasRoomFor_23 ?_
    refine rn_ald (v := nI (S (rc + 1))) hx hb hK hP 3 0 rfl hty (by have := hR.2.2.2.2; omega) (by decide) (hR.2.1 _ (by omega) (by omega)) dX0_hasRoomFor_24 ?_
    refine rn_isub hx hb (hR.2.2.2.1) dX0_hasRoomFor_25 ?_
    refine rn_icmp_gt (tgt := 33) hx hb (by have := hR.2.2.2.1; omega) (by have := hR.2.2.2.1; omega) dX0_hasRoomFor_26 (by decide) (fun c_26 => ?_) (fun c_26 => ?_)
    · refine lv_iconst (v := nI 0) hx hb dX0_hasRoomFor_33 (by decide) ?_
      exact pu_zret hx hb hr hlocks (by decide) (Or.inr ⟨rfl, by have := hR.2.2.2.1; omega⟩) dX0_hasRoomFor_34
    · refine lv_iconst (v := nI 1) hx hb dX0_hasRoomFor_29 (by decide) ?_
      refine lv_goto (tgt := 34) hx hb dX0_hasRoomFor_30 (by decide) ?_
      exact pu_zret hx hb hr hlocks (by decide) (Or.inl ⟨rfl, by have := hR.2.2.2.1; omega⟩) dX0_hasRoomFor_34
set_option maxHeartbeats 4000000 in
set_option maxRecDepth 100000 in
/-- findColon -/
theorem kx_findColon (l : Launch) (D : va_G) {tys : List (ClassId × FieldType)} {cI : ClassId} (hty : tys[0]? = some (cI, .int)) (h0 hd hc hs : Nat) (wr : va_W) (dr ch st : Nat → Int32) (n rc : Nat) (a z : Nat) (haz : a ≤ z) (hz : z ≤ 20000) : Met l yX0_findColon wsX0_findColon ({ frames := 0, cells := 0, slots := 0, locals := 0 }) (pu_Pc D vwCl (cn_W cI h0 hd hc hs wr dr ch st n rc) tys [.ref h0, .int (nI a), .int (nI z)]) (vp_Si (fun r => r = nI (a + sp_ix (sp_sl ch a (z - a))))) 0 0 (fun _ => False) := by
  refine pu_of (cc := cX0_findColon) (maxL := 4) (ret := some .int) (own := RX0) (by decide) rfl rfl (Nat.le_of_ble_eq_true rfl) ?_
  intro p e s m below meth c hx hb hr hts hown hlocks hml hP hK ls hl
  have hl : lv_has ls 4 [(0, .ref h0), (1, .int (nI a)), (2, .int (nI z))] := hl
  have hin0 : ∀ w ∈ u_ws RX0 TX0 5, w ∈ wsX0_findColon := by decide +kernel
  have f17 := hts (.fieldLink RX0 17 "NameNumbers" "characters" "[I") (by decide +kernel)
  have loop : ∀ (j : Nat) (i : Nat) (ls : Array Slot), z + 1 ≤ i + j → a ≤ i → i ≤ z → (∀ x, a ≤ x → x < i → ch x ≠ nI 58) → lv_has ls 4 [(0, .ref h0), (1, .int (nI a)), (2, .int (nI z)), (3, .int (nI i))] → W p l e { frames := 0, cells := 0, slots := 0, locals := 0 } s m [.ref h0, .int (nI a), .int (nI z)].toArray below meth c s.heap [] 0 0 (MQ below (vp_Si (fun r => r = nI (a + sp_ix (sp_sl ch a (z - a))))) [.ref h0, .int (nI a), .int (nI z)].toArray s 0 0 (fun _ => False)) (F0 m 2 ls []) := by
    intro j
    induction j with
    | zero => intro i ls hj hi1 hi2 hinv hl; exfalso; omega
    | succ j ih =>
      intro i ls hj hi1 hi2 hinv hl
      refine lv_iload_n hx hb dX0_findColon_2 rfl (lv_at hl 3 rfl) ?_
      refine lv_iload_n hx hb dX0_findColon_3 rfl (lv_at hl 2 rfl) ?_
      refine rn_icmp_ge (tgt := 26) hx hb (by omega) (by omega) dX0_findColon_4 (by decide) (fun c_4 => ?_) (fun c_4 => ?_)
      · refine lv_iload_n hx hb dX0_findColon_26 rfl (lv_at hl 2 rfl) ?_
        exact pu_iret hx hb hr hlocks (cn_fc_end haz (fun x h1 h2 => hinv x h1 (by omega))) dX0_findColon_27
      · refine lv_aload_n hx hb dX0_findColon_7 rfl (lv_at hl 0 rfl) ?_
        refine va_get (D := D) (ci := 0) (v := .ref hc) (C := RX0) (T := TX0) (N := 5) hx hb hts hin0 hown hK hP 0 rfl rfl 2 (by decide) f17 (fun _ h9 => h9) rfl dX0_findColon_8 ?_
        refine lv_iload_n hx hb dX0_findColon_11 rfl (lv_at hl 3 rfl) ?_
        refine rn_ald (v := ch i) hx hb hK hP 2 0 rfl hty (by omega) (by decide) (rfl) dX0_findColon_12 ?_
        refine lv_bipush (v := nI 58) hx hb dX0_findColon_13 (by decide) ?_
        refine lv_icmp_ne (tgt := 20) hx hb dX0_findColon_15 (by decide) (fun c_15 => ?_) (fun c_15 => ?_)
        · refine rn_iinc (n := 1) (lv' := [(3, .int (nI (i + 1))), (0, .ref h0), (1, .int (nI a)), (2, .int (nI z))]) hx hb dX0_findColon_20 hl (k := 3) rfl (by decide) rfl (fun ls hl => ?_)
          refine lv_goto (tgt := 2) hx hb dX0_findColon_23 (by decide) ?_
          exact ih (i + 1) ls (by omega) (by omega) (by omega) (fun x h1 h2 => (Nat.lt_or_ge x i).elim (fun q => hinv x h1 q) (fun q => by rw [show x = i by omega]; exact c_15)) (lv_sub hl [1, 2, 3, 0] rfl)
        · refine lv_iload_n hx hb dX0_findColon_18 rfl (lv_at hl 3 rfl) ?_
          exact pu_iret hx hb hr hlocks (cn_fc_hit hi1 (by omega) hinv c_15) dX0_findColon_19
  refine lv_iload_n hx hb dX0_findColon_0 rfl (lv_at hl 1 rfl) ?_
  refine lv_istore_n (lv' := [(3, .int (nI a)), (0, .ref h0), (1, .int (nI a)), (2, .int (nI z))]) hx hb dX0_findColon_1 rfl hl (by decide) rfl (fun ls hl => ?_)
  exact loop (z + 1) a ls (by omega) (Nat.le_refl a) haz (fun x h1 h2 => absurd h1 (by omega)) (lv_sub hl [1, 2, 3, 0] rfl)
set_option maxHeartbeats 4000000 in
set_option maxRecDepth 100000 in
/-- isSame -/
theorem kx_isSame (l : Launch) (D : va_G) {tys : List (ClassId × FieldType)} {cI : ClassId} (hty : tys[0]? = some (cI, .int)) (h0 hd hc hs : Nat) (wr : va_W) (dr ch st : Nat → Int32) (n rc : Nat) (S : Nat → Nat) (hR : cn_S st rc S) (qs a N2 : Nat) (f : Nat → Int32) (hq : (cn_W cI h0 hd hc hs wr dr ch st n rc)[qs]? = some (a, .inl (cI, N2, .inl f))) (hN : N2 ≤ 20000) (b0 k : Nat) (hk1 : 1 ≤ k) (hk2 : k ≤ rc) (hb0 : b0 + (S (k + 1) - S k) ≤ N2) : Met l yX0_isSame wsX0_isSame ({ frames := 1, cells := 0, slots := 0, locals := 21 }) (pu_Pc D vwCl (cn_W cI h0 hd hc hs wr dr ch st n rc) tys [.ref h0, .ref a, .int (nI b0), .int (nI k)]) (vp_Si (fun r => (r = nI 1 ∧ sp_sl f b0 (S (k + 1) - S k) = cn_row ch S k) ∨ (r = nI 0 ∧ ¬ sp_sl f b0 (S (k + 1) - S k) = cn_row ch S k))) 0 0 (fun _ => False) := by
  refine pu_of (cc := cX0_isSame) (maxL := 6) (ret := some .boolean) (own := RX0) (by decide) rfl rfl (Nat.le_of_ble_eq_true rfl) ?_
  intro p e s m below meth c hx hb hr hts hown hlocks hml hP hK ls hl
  have hl : lv_has ls 6 [(0, .ref h0), (1, .ref a), (2, .int (nI b0)), (3, .int (nI k))] := hl
  have hin0 : ∀ w ∈ u_ws RX0 TX0 5, w ∈ wsX0_isSame := by decide +kernel
  have f17 := hts (.fieldLink RX0 17 "NameNumbers" "characters" "[I") (by decide +kernel)
  have f20 := hts (.fieldLink RX0 20 "NameNumbers" "starts" "[I") (by decide +kernel)
  have hle := hR.2.2.1 k hk1 hk2
  have htop := cn_top hR (k := k + 1) (by omega) (by omega)
  have loop : ∀ (j : Nat) (i : Nat) (ls : Array Slot), (S (k + 1) - S k) + 1 ≤ i + j → i ≤ S (k + 1) - S k → (∀ x, x < i → f (b0 + x) = ch (S k + x)) → lv_has ls 6 [(0, .ref h0), (1, .ref a), (2, .int (nI b0)), (3, .int (nI k)), (4, .int (nI (S (k + 1) - S k))), (5, .int (nI i))] → W p l e { frames := 1, cells := 0, slots := 0, locals := 21 } s m [.ref h0, .ref a, .int (nI b0), .int (nI k)].toArray below meth c s.heap [] 0 0 (MQ below (vp_Si (fun r => (r = nI 1 ∧ sp_sl f b0 (S (k + 1) - S k) = cn_row ch S k) ∨ (r = nI 0 ∧ ¬ sp_sl f b0 (S (k + 1) - S k) = cn_row ch S k))) [.ref h0, .ref a, .int (nI b0), .int (nI k)].toArray s 0 0 (fun _ => False)) (F0 m 10 ls []) := by
    intro j
    induction j with
    | zero => intro i ls hj hi hinv hl; exfalso; omega
    | succ j ih =>
      intro i ls hj hi hinv hl
      refine lv_iload hx hb dX0_isSame_10 (lv_at hl 5 rfl) ?_
      refine lv_iload hx hb dX0_isSame_12 (lv_at hl 4 rfl) ?_
      refine rn_icmp_ge (tgt := 48) hx hb (by omega) (by omega) dX0_isSame_14 (by decide) (fun c_14 => ?_) (fun c_14 => ?_)
      · refine lv_iconst (v := nI 1) hx hb dX0_isSame_48 (by decide) ?_
        exact pu_zret hx hb hr hlocks (by decide) (Or.inl ⟨rfl, sp_ext (fun x hx => hinv x (by omega))⟩) dX0_isSame_49
      · refine lv_aload_n hx hb dX0_isSame_17 rfl (lv_at hl 1 rfl) ?_
        refine lv_iload_n hx hb dX0_isSame_18 rfl (lv_at hl 2 rfl) ?_
        refine lv_iload hx hb dX0_isSame_19 (lv_at hl 5 rfl) ?_
        refine rn_iadd hx hb dX0_isSame_21 ?_
        refine rn_ald (v := f (b0 + i)) hx hb hK hP qs 0 hq hty (by omega) (by omega) (rfl) dX0_isSame_22 ?_
        refine lv_aload_n hx hb dX0_isSame_23 rfl (lv_at hl 0 rfl) ?_
        refine va_get (D := D) (ci := 0) (v := .ref hc) (C := RX0) (T := TX0) (N := 5) hx hb hts hin0 hown hK hP 0 rfl rfl 2 (by decide) f17 (fun _ h9 => h9) rfl dX0_isSame_24 ?_
        refine lv_aload_n hx hb dX0_isSame_27 rfl (lv_at hl 0 rfl) ?_
        refine va_get (D := D) (ci := 0) (v := .ref hs) (C := RX0) (T := TX0) (N := 5) hx hb hts hin0 hown hK hP 0 rfl rfl 3 (by decide) f20 (fun _ h9 => h9) rfl dX0_isSame_28 ?_
        refine lv_iload_n hx hb dX0_isSame_31 rfl (lv_at hl 3 rfl) ?_
        refine rn_ald (v := nI (S k)) hx hb hK hP 3 0 rfl hty (by have := hR.2.2.2.2; omega) (by decide) (hR.2.1 _ (by omega) (by omega)) dX0_isSame_32 ?_
        refine lv_iload hx hb dX0_isSame_33 (lv_at hl 5 rfl) ?_
        refine rn_iadd hx hb dX0_isSame_35 ?_
        refine rn_ald (v := ch (S k + i)) hx hb hK hP 2 0 rfl hty (by omega) (by decide) (rfl) dX0_isSame_36 ?_
        refine lv_icmp_eq (tgt := 42) hx hb dX0_isSame_37 (by decide) (fun c_37 => ?_) (fun c_37 => ?_)
        · refine rn_iinc (n := 1) (lv' := [(5, .int (nI (i + 1))), (0, .ref h0), (1, .ref a), (2, .int (nI b0)), (3, .int (nI k)), (4, .int (nI (S (k + 1) - S k)))]) hx hb dX0_isSame_42 hl (k := 5) rfl (by decide) rfl (fun ls hl => ?_)
          refine lv_goto (tgt := 10) hx hb dX0_isSame_45 (by decide) ?_
          exact ih (i + 1) ls (by omega) (by omega) (fun x h2 => (Nat.lt_or_ge x i).elim (fun q => hinv x q) (fun q => by rw [show x = i by omega]; exact c_37)) (lv_sub hl [1, 2, 3, 4, 5, 0] rfl)
        · refine lv_iconst (v := nI 0) hx hb dX0_isSame_40 (by decide) ?_
          exact pu_zret hx hb hr hlocks (by decide) (Or.inr ⟨rfl, fun q => c_37 (sp_at q i (by omega))⟩) dX0_isSame_41
  refine lv_aload_n hx hb dX0_isSame_0 rfl (lv_at hl 0 rfl) ?_
  refine lv_iload_n hx hb dX0_isSame_1 rfl (lv_at hl 3 rfl) ?_
  refine vp_callSi (W.runV (As := [.int (nI k)]) (rest := []) ⟨hx, hb, hml, hown, hts⟩ (kx_lengthOf l D hty h0 hd hc hs wr dr ch st n rc S hR k (by omega) (by omega)) (cwV 1 hts gX0_isSame_X0_lengthOf rfl rfl rfl (by decide +kernel) ⟨Nat.le_of_ble_eq_true rfl, Nat.le_of_ble_eq_true rfl⟩) (pu_preV hK hP 0 rfl rfl) rfl rfl hl.1 rfl (lv_room (Nat.le_of_ble_eq_true rfl)) dX0_isSame_2 ⟨Nat.zero_le _, Nat.zero_le _⟩) (fun r2 er2 => ?_)
  subst er2
  refine lv_istore (lv' := [(4, .int (nI (S (k + 1) - S k))), (0, .ref h0), (1, .ref a), (2, .int (nI b0)), (3, .int (nI k))]) hx hb dX0_isSame_5 hl (by decide) rfl (fun ls hl => ?_)
  refine lv_iconst (v := nI 0) hx hb dX0_isSame_7 (by decide) ?_
  refine lv_istore (lv' := [(5, .int (nI 0)), (4, .int (nI (S (k + 1) - S k))), (0, .ref h0), (1, .ref a), (2, .int (nI b0)), (3, .int (nI k))]) hx hb dX0_isSame_8 hl (by decide) rfl (fun ls hl => ?_)
  exact loop ((S (k + 1) - S k) + 1) 0 ls (by omega) (Nat.zero_le _) (fun x h => absurd h (Nat.not_lt_zero x)) (lv_sub hl [2, 3, 4, 5, 1, 0] rfl)
set_option maxHeartbeats 4000000 in
set_option maxRecDepth 100000 in
/-- find -/
theorem kx_find (l : Launch) (D : va_G) {tys : List (ClassId × FieldType)} {cI : ClassId} (hty : tys[0]? = some (cI, .int)) (h0 hd hc hs : Nat) (wr : va_W) (dr ch st : Nat → Int32) (n rc : Nat) (S : Nat → Nat) (hR : cn_S st rc S) (qs a N2 : Nat) (f : Nat → Int32) (hq : (cn_W cI h0 hd hc hs wr dr ch st n rc)[qs]? = some (a, .inl (cI, N2, .inl f))) (hN : N2 ≤ 20000) (b0 n2 : Nat) (hb0 : b0 + n2 ≤ N2) : Met l yX0_find wsX0_find ({ frames := 2, cells := 0, slots := 0, locals := 46 }) (pu_Pc D vwCl (cn_W cI h0 hd hc hs wr dr ch st n rc) tys [.ref h0, .ref a, .int (nI b0), .int (nI n2)]) (vp_Si (fun r => r = sp_an (sp_fd (sp_sl f b0 n2) (cn_rows ch S 1 rc) 1))) 0 0 (fun _ => False) := by
  refine pu_of (cc := cX0_find) (maxL := 5) (ret := some .int) (own := RX0) (by decide) rfl rfl (Nat.le_of_ble_eq_true rfl) ?_
  intro p e s m below meth c hx hb hr hts hown hlocks hml hP hK ls hl
  have hl : lv_has ls 5 [(0, .ref h0), (1, .ref a), (2, .int (nI b0)), (3, .int (nI n2))] := hl
  have hin0 : ∀ w ∈ u_ws RX0 TX0 5, w ∈ wsX0_find := by decide +kernel
  have f23 := hts (.fieldLink RX0 23 "NameNumbers" "rowCount" "I") (by decide +kernel)
  have loop : ∀ (j : Nat) (k : Nat) (ls : Array Slot), rc + 2 ≤ k + j → 1 ≤ k → k ≤ rc + 1 → sp_fd (sp_sl f b0 n2) (cn_rows ch S 1 rc) 1 = sp_fd (sp_sl f b0 n2) (cn_rows ch S k (rc + 1 - k)) k → lv_has ls 5 [(0, .ref h0), (1, .ref a), (2, .int (nI b0)), (3, .int (nI n2)), (4, .int (nI k))] → W p l e { frames := 2, cells := 0, slots := 0, locals := 46 } s m [.ref h0, .ref a, .int (nI b0), .int (nI n2)].toArray below meth c s.heap [] 0 0 (MQ below (vp_Si (fun r => r = sp_an (sp_fd (sp_sl f b0 n2) (cn_rows ch S 1 rc) 1))) [.ref h0, .ref a, .int (nI b0), .int (nI n2)].toArray s 0 0 (fun _ => False)) (F0 m 3 ls []) := by
    intro j
    induction j with
    | zero => intro k ls hj hk1 hk2 hinv hl; exfalso; omega
    | succ j ih =>
      intro k ls hj hk1 hk2 hinv hl
      refine lv_iload hx hb dX0_find_3 (lv_at hl 4 rfl) ?_
      refine lv_aload_n hx hb dX0_find_5 rfl (lv_at hl 0 rfl) ?_
      refine va_get (D := D) (ci := 0) (v := .int (nI rc)) (C := RX0) (T := TX0) (N := 5) hx hb hts hin0 hown hK hP 0 rfl rfl 4 (by decide) f23 (fun _ h9 => h9) rfl dX0_find_6 ?_
      refine rn_icmp_gt (tgt := 42) hx hb (by have := hR.2.2.2.2; omega) (by have := hR.2.2.2.2; omega) dX0_find_9 (by decide) (fun c_9 => ?_) (fun c_9 => ?_)
      · refine lv_iconst (v := (-1)) hx hb dX0_find_42 (by decide) ?_
        exact pu_iret hx hb hr hlocks (cn_fd_end (by omega) hinv) dX0_find_43
      · refine lv_aload_n hx hb dX0_find_12 rfl (lv_at hl 0 rfl) ?_
        refine lv_iload hx hb dX0_find_13 (lv_at hl 4 rfl) ?_
        refine vp_callSi (W.runV (As := [.int (nI k)]) (rest := []) ⟨hx, hb, hml, hown, hts⟩ (kx_lengthOf l D hty h0 hd hc hs wr dr ch st n rc S hR k (by omega) (by omega)) (cwV 1 hts gX0_find_X0_lengthOf rfl rfl rfl (by decide +kernel) ⟨Nat.le_of_ble_eq_true rfl, Nat.le_of_ble_eq_true rfl⟩) (pu_preV hK hP 0 rfl rfl) rfl rfl hl.1 rfl (lv_room (Nat.le_of_ble_eq_true rfl)) dX0_find_15 ⟨Nat.zero_le _, Nat.zero_le _⟩) (fun r15 er15 => ?_)
        subst er15
        refine lv_iload_n hx hb dX0_find_18 rfl (lv_at hl 3 rfl) ?_
        refine rn_icmp_ne (tgt := 36) hx hb (by have := cn_top hR (k := k + 1) (by omega) (by omega); omega) (by have := cn_top hR (k := k + 1) (by omega) (by omega); omega) dX0_find_19 (by decide) (fun c_19 => ?_) (fun c_19 => ?_)
        · refine rn_iinc (n := 1) (lv' := [(4, .int (nI (k + 1))), (0, .ref h0), (1, .ref a), (2, .int (nI b0)), (3, .int (nI n2))]) hx hb dX0_find_36 hl (k := 4) rfl (by decide) rfl (fun ls hl => ?_)
          refine lv_goto (tgt := 3) hx hb dX0_find_39 (by decide) ?_
          exact ih (k + 1) ls (by omega) (by omega) (by omega) (cn_fd_miss (by omega) hinv (by first | (intro q; exact c_19 (by have := congrArg List.length q; rw [cn_row, sp_len, sp_len] at this; exact this)) | (rw [← c_19]; exact fun q => hs_1 q.symm))) (lv_sub hl [1, 2, 3, 4, 0] rfl)
        · refine lv_aload_n hx hb dX0_find_22 rfl (lv_at hl 0 rfl) ?_
          refine lv_aload_n hx hb dX0_find_23 rfl (lv_at hl 1 rfl) ?_
          refine lv_iload_n hx hb dX0_find_24 rfl (lv_at hl 2 rfl) ?_
          refine lv_iload hx hb dX0_find_25 (lv_at hl 4 rfl) ?_
          refine vp_callSi (W.runV (As := [.ref a, .int (nI b0), .int (nI k)]) (rest := []) ⟨hx, hb, hml, hown, hts⟩ (kx_isSame l D hty h0 hd hc hs wr dr ch st n rc S hR qs a N2 f hq hN b0 k (by omega) (by omega) (by omega)) (cwV 3 hts gX0_find_X0_isSame rfl rfl rfl (by decide +kernel) ⟨Nat.le_of_ble_eq_true rfl, Nat.le_of_ble_eq_true rfl⟩) (pu_preV hK hP 0 rfl rfl) rfl rfl hl.1 rfl (lv_room (Nat.le_of_ble_eq_true rfl)) dX0_find_27 ⟨Nat.zero_le _, Nat.zero_le _⟩) (fun r27 er27 => ?_)
          rcases er27 with ⟨er27, hs_1⟩ | ⟨er27, hs_1⟩
          · subst er27
            refine lv_if_eq (tgt := 36) hx hb dX0_find_30 (by decide) (fun c_30 => absurd c_30 (by decide)) (fun c_30 => ?_)
            refine lv_iload hx hb dX0_find_33 (lv_at hl 4 rfl) ?_
            exact pu_iret hx hb hr hlocks (cn_fd_hit (by omega) hinv (by rw [c_19] at hs_1; exact hs_1.symm)) dX0_find_35
          · subst er27
            refine lv_if_eq (tgt := 36) hx hb dX0_find_30 (by decide) (fun c_30 => ?_) (fun c_30 => absurd c_30 (not_not_intro (by decide)))
            refine rn_iinc (n := 1) (lv' := [(4, .int (nI (k + 1))), (0, .ref h0), (1, .ref a), (2, .int (nI b0)), (3, .int (nI n2))]) hx hb dX0_find_36 hl (k := 4) rfl (by decide) rfl (fun ls hl => ?_)
            refine lv_goto (tgt := 3) hx hb dX0_find_39 (by decide) ?_
            exact ih (k + 1) ls (by omega) (by omega) (by omega) (cn_fd_miss (by omega) hinv (by first | (intro q; exact c_19 (by have := congrArg List.length q; rw [cn_row, sp_len, sp_len] at this; exact this)) | (rw [← c_19]; exact fun q => hs_1 q.symm))) (lv_sub hl [1, 2, 3, 4, 0] rfl)
  refine lv_iconst (v := nI 1) hx hb dX0_find_0 (by decide) ?_
  refine lv_istore (lv' := [(4, .int (nI 1)), (0, .ref h0), (1, .ref a), (2, .int (nI b0)), (3, .int (nI n2))]) hx hb dX0_find_1 hl (by decide) rfl (fun ls hl => ?_)
  exact loop (rc + 2) 1 ls (by omega) (Nat.le_refl 1) (by omega) rfl (lv_sub hl [1, 2, 3, 4, 0] rfl)
