set_option maxHeartbeats 4000000 in
set_option maxRecDepth 100000 in
/-- the constructor: three arrays are made -/
theorem kx_init (l : Launch) (D : va_G) {tys : List (ClassId × FieldType)} {cI : ClassId} (hty : tys[0]? = some (cI, .int)) (h0 : Nat) (wr : va_W) (A : Nat → Prop) : Met l yX0_init wsX0_init ({ frames := 1, cells := 3, slots := 25002, locals := 20 }) (mk_Pc D vwCl ((h0, .inr (0, [.null, .int 0, .null, .null, .int 0])) :: wr) tys A [.ref h0]) (va_Qv (fun w => ∃ hd hc hs : Nat, w = (h0, .inr (0, [.ref hd, .int (nI 0), .ref hc, .ref hs, .int (nI 0)])) :: (((wr ++ [(hd, .inl (cI, 2000, .inl (fun _ => 0)))]) ++ [(hc, .inl (cI, 20000, .inl (fun _ => 0)))]) ++ [(hs, .inl (cI, 3002, .inl (fun _ => 0)))])) (mu_B D vwCl tys A) A) 3 25002 A := by
  refine mk_of (cc := cX0_init) (maxL := 1) (own := RX0) (by decide) rfl rfl rfl (Nat.le_of_ble_eq_true rfl) ?_
  intro p e s m below meth c hx hb hr hts hown hlocks hin hml hP hK hD hS hA ls hl
  have hl : lv_has ls 1 [(0, .ref h0)] := hl
  have hin0 : ∀ w ∈ u_ws RX0 TX0 5, w ∈ wsX0_init := by decide +kernel
  have f9 := hts (.fieldLink RX0 9 "NameNumbers" "draft" "[I") (by decide +kernel)
  have f13 := hts (.fieldLink RX0 13 "NameNumbers" "draftLength" "I") (by decide +kernel)
  have f17 := hts (.fieldLink RX0 17 "NameNumbers" "characters" "[I") (by decide +kernel)
  have f20 := hts (.fieldLink RX0 20 "NameNumbers" "starts" "[I") (by decide +kernel)
  have f23 := hts (.fieldLink RX0 23 "NameNumbers" "rowCount" "I") (by decide +kernel)
  have harr := hts (.arrayClass .int) (by decide +kernel)
  refine lv_aload_n hx hb dX0_init_0 rfl (lv_at hl 0 rfl) ?_
  refine W.objInit hx hb hown (hts (.methodLink RX0 1 objectInit) (by decide +kernel)) (hts (.instanceMethod objectInit) (by decide +kernel)) (hts _ (List.mem_of_getElem? (i := 3) rfl)) rfl (by rw [hml]; exact hl.1) rfl dX0_init_1 (Nat.le_of_ble_eq_true rfl) (Nat.le_of_ble_eq_true rfl) ?_
  refine W.eq (g2 := F0 m 4 ls []) rfl ?_
  refine lv_aload_n hx hb dX0_init_4 rfl (lv_at hl 0 rfl) ?_
  refine lv_sipush (v := nI 2000) hx hb dX0_init_5 (by decide) ?_
  refine rn_newa hx hb harr hK hty hP hD hS hA (by decide) (by decide) (Nat.le_of_ble_eq_true rfl) (Nat.le_of_ble_eq_true rfl) dX0_init_8 (fun hd H hP hD hS => ?_)
  have hP : va_P D vwCl ((h0, .inr (0, [.null, .int 0, .null, .null, .int 0])) :: (wr ++ [(hd, .inl (cI, 2000, .inl (fun _ => 0)))])) H := hP
  have hD : va_D A ((h0, .inr (0, [.null, .int 0, .null, .null, .int 0])) :: (wr ++ [(hd, .inl (cI, 2000, .inl (fun _ => 0)))])) := hD
  refine W.widen (k := 1) (n := 2000) (by omega) (by omega) ?_
  refine va_putF (D := D) (ci := 0) (v := .ref hd) (ty := .array .int) (C := RX0) (T := TX0) (N := 5) hx hb hts hin0 tyX0 tyX0_ok nmX0 hown hK hP hD hS 0 rfl rfl 0 (by decide) f9 (fun _ h9 => h9) rfl hin rfl (by decide +kernel) rfl rfl (Nat.le_of_ble_eq_true rfl) dX0_init_10 (fun H locs hP hD hS => ?_)
  have hP : va_P D vwCl ((h0, .inr (0, [.ref hd, .int 0, .null, .null, .int 0])) :: (wr ++ [(hd, .inl (cI, 2000, .inl (fun _ => 0)))])) H := hP
  have hD : va_D A ((h0, .inr (0, [.ref hd, .int 0, .null, .null, .int 0])) :: (wr ++ [(hd, .inl (cI, 2000, .inl (fun _ => 0)))])) := hD
  refine lv_aload_n hx hb dX0_init_13 rfl (lv_at hl 0 rfl) ?_
  refine lv_iconst (v := nI 0) hx hb dX0_init_14 (by decide) ?_
  refine va_put (D := D) (ci := 0) (v := .int (nI 0)) (ty := .int) (C := RX0) (T := TX0) (N := 5) hx hb hts hin0 tyX0 tyX0_ok nmX0 hown hK hP hD hS 0 rfl rfl 1 (by decide) f13 (fun _ h9 => h9) rfl (by decide +kernel) rfl rfl (Nat.le_of_ble_eq_true rfl) dX0_init_15 (fun H locs hP hD hS => ?_)
  have hP : va_P D vwCl ((h0, .inr (0, [.ref hd, .int (nI 0), .null, .null, .int 0])) :: (wr ++ [(hd, .inl (cI, 2000, .inl (fun _ => 0)))])) H := hP
  have hD : va_D A ((h0, .inr (0, [.ref hd, .int (nI 0), .null, .null, .int 0])) :: (wr ++ [(hd, .inl (cI, 2000, .inl (fun _ => 0)))])) := hD
  refine lv_aload_n hx hb dX0_init_18 rfl (lv_at hl 0 rfl) ?_
  refine lv_sipush (v := nI 20000) hx hb dX0_init_19 (by decide) ?_
  refine rn_newa hx hb harr hK hty hP hD hS hA (by decide) (by decide) (Nat.le_of_ble_eq_true rfl) (Nat.le_of_ble_eq_true rfl) dX0_init_22 (fun hc H hP hD hS => ?_)
  have hP : va_P D vwCl ((h0, .inr (0, [.ref hd, .int (nI 0), .null, .null, .int 0])) :: ((wr ++ [(hd, .inl (cI, 2000, .inl (fun _ => 0)))]) ++ [(hc, .inl (cI, 20000, .inl (fun _ => 0)))])) H := hP
  have hD : va_D A ((h0, .inr (0, [.ref hd, .int (nI 0), .null, .null, .int 0])) :: ((wr ++ [(hd, .inl (cI, 2000, .inl (fun _ => 0)))]) ++ [(hc, .inl (cI, 20000, .inl (fun _ => 0)))])) := hD
  refine W.widen (k := 2) (n := 22000) (by omega) (by omega) ?_
  refine va_putF (D := D) (ci := 0) (v := .ref hc) (ty := .array .int) (C := RX0) (T := TX0) (N := 5) hx hb hts hin0 tyX0 tyX0_ok nmX0 hown hK hP hD hS 0 rfl rfl 2 (by decide) f17 (fun _ h9 => h9) rfl hin rfl (by decide +kernel) rfl rfl (Nat.le_of_ble_eq_true rfl) dX0_init_24 (fun H locs hP hD hS => ?_)
  have hP : va_P D vwCl ((h0, .inr (0, [.ref hd, .int (nI 0), .ref hc, .null, .int 0])) :: ((wr ++ [(hd, .inl (cI, 2000, .inl (fun _ => 0)))]) ++ [(hc, .inl (cI, 20000, .inl (fun _ => 0)))])) H := hP
  have hD : va_D A ((h0, .inr (0, [.ref hd, .int (nI 0), .ref hc, .null, .int 0])) :: ((wr ++ [(hd, .inl (cI, 2000, .inl (fun _ => 0)))]) ++ [(hc, .inl (cI, 20000, .inl (fun _ => 0)))])) := hD
  refine lv_aload_n hx hb dX0_init_27 rfl (lv_at hl 0 rfl) ?_
  refine lv_sipush (v := nI 3002) hx hb dX0_init_28 (by decide) ?_
  refine rn_newa hx hb harr hK hty hP hD hS hA (by decide) (by decide) (Nat.le_of_ble_eq_true rfl) (Nat.le_of_ble_eq_true rfl) dX0_init_31 (fun hs H hP hD hS => ?_)
  have hP : va_P D vwCl ((h0, .inr (0, [.ref hd, .int (nI 0), .ref hc, .null, .int 0])) :: (((wr ++ [(hd, .inl (cI, 2000, .inl (fun _ => 0)))]) ++ [(hc, .inl (cI, 20000, .inl (fun _ => 0)))]) ++ [(hs, .inl (cI, 3002, .inl (fun _ => 0)))])) H := hP
  have hD : va_D A ((h0, .inr (0, [.ref hd, .int (nI 0), .ref hc, .null, .int 0])) :: (((wr ++ [(hd, .inl (cI, 2000, .inl (fun _ => 0)))]) ++ [(hc, .inl (cI, 20000, .inl (fun _ => 0)))]) ++ [(hs, .inl (cI, 3002, .inl (fun _ => 0)))])) := hD
  refine W.widen (k := 3) (n := 25002) (by omega) (by omega) ?_
  refine va_putF (D := D) (ci := 0) (v := .ref hs) (ty := .array .int) (C := RX0) (T := TX0) (N := 5) hx hb hts hin0 tyX0 tyX0_ok nmX0 hown hK hP hD hS 0 rfl rfl 3 (by decide) f20 (fun _ h9 => h9) rfl hin rfl (by decide +kernel) rfl rfl (Nat.le_of_ble_eq_true rfl) dX0_init_33 (fun H locs hP hD hS => ?_)
  have hP : va_P D vwCl ((h0, .inr (0, [.ref hd, .int (nI 0), .ref hc, .ref hs, .int 0])) :: (((wr ++ [(hd, .inl (cI, 2000, .inl (fun _ => 0)))]) ++ [(hc, .inl (cI, 20000, .inl (fun _ => 0)))]) ++ [(hs, .inl (cI, 3002, .inl (fun _ => 0)))])) H := hP
  have hD : va_D A ((h0, .inr (0, [.ref hd, .int (nI 0), .ref hc, .ref hs, .int 0])) :: (((wr ++ [(hd, .inl (cI, 2000, .inl (fun _ => 0)))]) ++ [(hc, .inl (cI, 20000, .inl (fun _ => 0)))]) ++ [(hs, .inl (cI, 3002, .inl (fun _ => 0)))])) := hD
  refine lv_aload_n hx hb dX0_init_36 rfl (lv_at hl 0 rfl) ?_
  refine lv_iconst (v := nI 0) hx hb dX0_init_37 (by decide) ?_
  refine va_put (D := D) (ci := 0) (v := .int (nI 0)) (ty := .int) (C := RX0) (T := TX0) (N := 5) hx hb hts hin0 tyX0 tyX0_ok nmX0 hown hK hP hD hS 0 rfl rfl 4 (by decide) f23 (fun _ h9 => h9) rfl (by decide +kernel) rfl rfl (Nat.le_of_ble_eq_true rfl) dX0_init_38 (fun H locs hP hD hS => ?_)
  have hP : va_P D vwCl ((h0, .inr (0, [.ref hd, .int (nI 0), .ref hc, .ref hs, .int (nI 0)])) :: (((wr ++ [(hd, .inl (cI, 2000, .inl (fun _ => 0)))]) ++ [(hc, .inl (cI, 20000, .inl (fun _ => 0)))]) ++ [(hs, .inl (cI, 3002, .inl (fun _ => 0)))])) H := hP
  have hD : va_D A ((h0, .inr (0, [.ref hd, .int (nI 0), .ref hc, .ref hs, .int (nI 0)])) :: (((wr ++ [(hd, .inl (cI, 2000, .inl (fun _ => 0)))]) ++ [(hc, .inl (cI, 20000, .inl (fun _ => 0)))]) ++ [(hs, .inl (cI, 3002, .inl (fun _ => 0)))])) := hD
  exact mk_vret hx hb hr hlocks hP hK hD hS ⟨hd, hc, hs, rfl⟩ dX0_init_41
