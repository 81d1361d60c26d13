set_option maxHeartbeats 4000000 in
set_option maxRecDepth 100000 in
/-- the law's loop -/
theorem lc_loop {p : Program} {l : Launch} {e : Env} {s : State} {m : MethodId} {below : List Frame} {meth : Method} {c : Code} {b L : Nat} {xs : Nat → Int32} (hL : L ≤ 2048) (C0 : lw_At p s m meth c b L xs) {D : va_G} {tys : List (ClassId × FieldType)} {cI : ClassId} (hty : tys[0]? = some (cI, .int)) (hK : va_K D vwCl tys s) {h0 hd hc hs m0 ms mt ml md mk t : Nat} (hT0 : va_T .int t 32 (fun j => .int (sp_tb.getD j 0)) (lq_A s) s s.heap) (hZ0 : va_Z RX0 "NAME_STARTS" "[I" (.ref t) (lq_A s) s s.heap) : ∀ (j i : Nat) (d : List Int32) (rows : List (List Int32)) (w : va_W) (H : Heap) (locs : List Loc) (ls : Array Slot), L + 1 ≤ i + j → i ≤ L → lq_I cI h0 hd hc hs m0 ms mt ml md mk d rows w → va_P D vwCl w H → va_D (lq_A s) w → va_S (lq_A s) s.heap H locs → lv_has ls 4 [(0, .ref b), (1, .ref h0), (2, .ref m0), (3, .int (nI i))] → W p l e room_1 s m #[Value.ref b] below meth c H locs 10 73018 (lw_Z below #[Value.ref b] s) (F0 m 18 ls []) := by
  intro j
  induction j with
  | zero => intro i d rows w H locs ls hj hi; exfalso; omega
  | succ j ih =>
    intro i d rows w H locs ls hj hi hI hP hD hS hl
    obtain ⟨hx, hb, hr, hml, hown, htsT, hX, hbl, hlocks, hgv⟩ := id C0
    have hbA : ¬ lq_A s b := Nat.not_le.mpr hbl
    refine lv_iload_n hx hb dL_law_18 rfl (lv_at hl 3 rfl) ?_
    refine lv_aload_n hx hb dL_law_19 rfl (lv_at hl 0 rfl) ?_
    refine va_slen hx hb hX hbl hbA hS dL_law_20 ?_
    refine lv_iconst (v := nI 4) hx hb dL_law_21 (by decide) ?_
    refine lv_isub hx hb dL_law_22 ?_
    refine lv_icmp_gt (tgt := 415) hx hb dL_law_23 (by decide) (fun c_23 => ?_) (fun c_23 => ?_)
    · refine lv_iconst (v := 1) hx hb dL_law_415 (by decide) ?_
      refine va_forget (fun q hq => hS.2.2 q hq) ?_
      exact lw_ret hx hb hr hlocks dL_law_416
    · have hi4 := lq_more hL hi c_23
      have next : ∀ (d' : List Int32) (rows' : List (List Int32)) (w' : va_W) (H' : Heap) (locs' : List Loc), lq_I cI h0 hd hc hs m0 ms mt ml md mk d' rows' w' → va_P D vwCl w' H' → va_D (lq_A s) w' → va_S (lq_A s) s.heap H' locs' → W p l e room_1 s m #[Value.ref b] below meth c H' locs' 10 73018 (lw_Z below #[Value.ref b] s) (F0 m 409 ls []) := by
        intro d' rows' w' H' locs' hI' hP' hD' hS'
        refine rn_iinc (n := 4) (lv' := [(3, .int (nI (i + 4))), (0, .ref b), (1, .ref h0), (2, .ref m0)]) hx hb dL_law_409 hl (k := 3) rfl (by decide) rfl (fun ls hl => ?_)
        refine lv_goto (tgt := 18) hx hb dL_law_412 (by decide) ?_
        exact ih (i + 4) d' rows' w' H' locs' ls (by omega) hi4 hI' hP' hD' hS' (lv_sub hl [1, 2, 3, 0] rfl)
      refine lv_aload_n hx hb dL_law_26 rfl (lv_at hl 0 rfl) ?_
      refine lv_iload_n hx hb dL_law_27 rfl (lv_at hl 3 rfl) ?_
      refine rn_sld hx hb hX hbl hbA hS (by omega) (by omega) dL_law_28 ?_
      refine lv_bipush (v := nI 15) hx hb dL_law_29 (by decide) ?_
      refine lv_iand hx hb dL_law_31 ?_
      obtain ⟨v, hv, ev⟩ := pk_andE (xs i) (m := nI 15) 4 (by decide)
      rw [ev]
      have hv : v < 16 := hv
      rcases (show v = 0 ∨ v = 1 ∨ v = 2 ∨ v = 3 ∨ v = 4 ∨ v = 5 ∨ v = 6 ∨ v = 7 ∨ v = 8 ∨ v = 9 ∨ v = 10 ∨ v = 11 ∨ v = 12 ∨ v = 13 ∨ v = 14 ∨ v = 15 by omega) with rfl | rfl | rfl | rfl | rfl | rfl | rfl | rfl | rfl | rfl | rfl | rfl | rfl | rfl | rfl | rfl
      · refine lv_tableIn (tgt := 100) hx hb dL_law_32 (by decide) (by decide) (off := 68) (by decide) (by decide) ?_
        exact lc_write hL C0 hty hK hT0 hZ0 hi4 hI hP hD hS hl next
      · refine lv_tableIn (tgt := 133) hx hb dL_law_32 (by decide) (by decide) (off := 101) (by decide) (by decide) ?_
        exact lc_cut hL C0 hty hK hT0 hZ0 hi4 hI hP hD hS hl next
      · refine lv_tableIn (tgt := 156) hx hb dL_law_32 (by decide) (by decide) (off := 124) (by decide) (by decide) ?_
        exact lc_number hL C0 hty hK hT0 hZ0 hi4 hI hP hD hS hl next
      · refine lv_tableIn (tgt := 169) hx hb dL_law_32 (by decide) (by decide) (off := 137) (by decide) (by decide) ?_
        exact lc_isKnown hL C0 hty hK hT0 hZ0 hi4 hI hP hD hS hl next
      · refine lv_tableIn (tgt := 182) hx hb dL_law_32 (by decide) (by decide) (off := 150) (by decide) (by decide) ?_
        exact lc_take hL C0 hty hK hT0 hZ0 hi4 hI hP hD hS hl next
      · refine lv_tableIn (tgt := 205) hx hb dL_law_32 (by decide) (by decide) (off := 173) (by decide) (by decide) ?_
        exact lc_rows hL C0 hty hK hT0 hZ0 hi4 hI hP hD hS hl next
      · refine lv_tableIn (tgt := 218) hx hb dL_law_32 (by decide) (by decide) (off := 186) (by decide) (by decide) ?_
        exact lc_length hL C0 hty hK hT0 hZ0 hi4 hI hP hD hS hl next
      · refine lv_tableIn (tgt := 241) hx hb dL_law_32 (by decide) (by decide) (off := 209) (by decide) (by decide) ?_
        exact lc_sign hL C0 hty hK hT0 hZ0 hi4 hI hP hD hS hl next
      · refine lv_tableIn (tgt := 274) hx hb dL_law_32 (by decide) (by decide) (off := 242) (by decide) (by decide) ?_
        exact lc_compare hL C0 hty hK hT0 hZ0 hi4 hI hP hD hS hl next
      · refine lv_tableIn (tgt := 307) hx hb dL_law_32 (by decide) (by decide) (off := 275) (by decide) (by decide) ?_
        exact lc_colon hL C0 hty hK hT0 hZ0 hi4 hI hP hD hS hl next
      · refine lv_tableIn (tgt := 330) hx hb dL_law_32 (by decide) (by decide) (off := 298) (by decide) (by decide) ?_
        exact lc_part hL C0 hty hK hT0 hZ0 hi4 hI hP hD hS hl next
      · refine lv_tableIn (tgt := 373) hx hb dL_law_32 (by decide) (by decide) (off := 341) (by decide) (by decide) ?_
        exact lc_next hL C0 hty hK hT0 hZ0 hi4 hI hP hD hS hl next
      · refine lv_tableIn (tgt := 396) hx hb dL_law_32 (by decide) (by decide) (off := 364) (by decide) (by decide) ?_
        exact lc_clear hL C0 hty hK hT0 hZ0 hi4 hI hP hD hS hl next
      · refine lv_tableOut (tgt := 409) hx hb dL_law_32 (Or.inr (by decide)) (by decide) ?_
        exact next d rows w H locs hI hP hD hS
      · refine lv_tableOut (tgt := 409) hx hb dL_law_32 (Or.inr (by decide)) (by decide) ?_
        exact next d rows w H locs hI hP hD hS
      · refine lv_tableOut (tgt := 409) hx hb dL_law_32 (Or.inr (by decide)) (by decide) ?_
        exact next d rows w H locs hI hP hD hS
