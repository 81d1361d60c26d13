theorem lt_mem : ∀ j, j < 32 → (Cond.eq (.elem (.static RX0 "NAME_STARTS" "[I") (.int (Int32.ofNat j))) (.int (sp_tb.getD j 0))) ∈ flatC (Jvm.Cond.and given_1 narrow_1) := by decide +kernel
theorem lt_X0 : ∀ w ∈ u_ws RX0 TX0 5, w ∈ lw_tbl := by decide +kernel
theorem lt_X1 : ∀ w ∈ u_ws RX1 TX1 9, w ∈ lw_tbl := by decide +kernel
set_option maxHeartbeats 4000000 in
set_option maxRecDepth 100000 in
/-- THE LAW, from its entry -/
theorem whole_start {p : Program} {e : Env} {s : State} {m : MethodId} {below : List Frame} {meth : Method} {c : Code} (l : Launch) {b L : Nat} {xs : Nat → Int32} (hL : L ≤ 2048) (C0 : lw_At p s m meth c b L xs) : W p l e room_1 s m #[Value.ref b] below meth c s.heap [] 0 0 (lw_Z below #[Value.ref b] s) (entryFrame m ([Value.ref b] : List Value).toArray 4) := by
  obtain ⟨hx, hb, hr, hml, hown, htsT, hX, hbl, hlocks, hgv⟩ := id C0
  have hts : ∀ w ∈ wsL_law, w.before #[Value.ref b] s = true := fun w h => htsT w (wsL_law_in w h)
  have hown : s.vm.findClass RL = some m.cls := hown
  have hbA : ¬ lq_A s b := Nat.not_le.mpr hbl
  have hA : ∀ q : Nat, s.heap.size ≤ q → lq_A s q := fun _ h => h
  have hnA : ∀ a : Nat, a < s.heap.size → ¬ lq_A s a := fun a h => Nat.not_le.mpr h
  have hfl := flat_of_before _ hgv
  obtain ⟨t, ht, hT0⟩ := va_Tof (tm := .static RX0 "NAME_STARTS" "[I") (ty := .int) (N := 32) (f := fun j => .int (sp_tb.getD j 0)) (A := lq_A s) (by decide) (hfl _ (by decide +kernel)) (va_eqt (hfl (Cond.eq (.length (.static RX0 "NAME_STARTS" "[I")) (.int 32)) (by decide +kernel))) (fun j hj => va_eqt (hfl _ (lt_mem j hj))) hnA
  have hZ0 : va_Z RX0 "NAME_STARTS" "[I" (.ref t) (lq_A s) s s.heap := va_Zof (htsT (.laysStatic RX0 "NAME_STARTS" "[I") (by decide +kernel)) (htsT (.initialized RX0) (by decide +kernel)) ht hnA
  obtain ⟨c0, iS0, hKn0⟩ := u_known (C := RX0) (T := TX0) (N := 5) (n := 5) htsT lt_X0 (htsT (.instantiable RX0 5) (by decide +kernel))
  obtain ⟨c1, iS1, hKn1⟩ := u_known (C := RX1) (T := TX1) (N := 9) (n := 9) htsT lt_X1 (htsT (.instantiable RX1 9) (by decide +kernel))
  obtain ⟨dC, dI, hKc⟩ : ∃ (dC : Nat → ClassId) (dI : Nat → Nat → Nat), ∀ (k : Nat) (q : vw_C), vwCl[k]? = some q → u_Kn s q.1 q.2.1 q.2.2 (dC k) (dI k) := by
    refine ⟨fun k => if k = 0 then c0 else c1, fun k => if k = 0 then iS0 else iS1, ?_⟩
    intro k q hq
    match k, hq with
    | 0, hq => cases hq; exact hKn0
    | 1, hq => cases hq; exact hKn1
    | k + 2, hq => simp [vwCl] at hq
  have harr : (Cond.arrayClass .int).before #[Value.ref b] s = true := htsT (.arrayClass .int) (by decide +kernel)
  obtain ⟨cI, kI, comp, hI1, hI2, hI3⟩ := Cond.arrayClass_spec harr
  have hS : va_S (lq_A s) s.heap s.heap [] := va_S.rf
  have hK : va_K (dC, dI) vwCl [(cI, .int)] s := by
    refine ⟨hKc, fun k q h => ?_⟩
    match k, h with
    | 0, h => cases h; exact ⟨fun n z => ⟨fun k h => (by cases h), kI, hI2, comp, hI3⟩, hI1⟩
    | k + 1, h => simp at h
  have hty : ([(cI, .int)] : List (ClassId × FieldType))[0]? = some (cI, .int) := rfl
  have hP : va_P (dC, dI) vwCl [] s.heap := fun k q h => by simp at h
  have hD : va_D (lq_A s) [] := ⟨fun i j p q h => by simp at h, fun k q h => by simp at h⟩
  have hl := lv_entry ([.ref b]) (n := 4) (Nat.le_of_ble_eq_true rfl)
  rw [lg_entry_eq]
  generalize (lg_sl ([.ref b]) ++ List.replicate (4 - (lg_sl ([.ref b])).length) Slot.unset).toArray = ls at hl ⊢
  have hl : lv_has ls 4 [(0, .ref b)] := hl
  refine va_new (ci := 0) (fs := [.null, .int 0, .null, .null, .int 0]) (C := RX0) (T := TX0) (N := 5) hx hb htsT lt_X0 tyX0 tyX0_ok hown (hts (.classLink RL 7 RX0) (by decide +kernel)) (hts (.instantiable RX0 5) (by decide +kernel)) (hts (.initialized RX0) (by decide +kernel)) hK hP hD hS hA rfl (fun j hj => by rcases (show j = 0 ∨ j = 1 ∨ j = 2 ∨ j = 3 ∨ j = 4 by omega) with rfl | rfl | rfl | rfl | rfl <;> rfl) (Nat.le_of_ble_eq_true rfl) (Nat.le_of_ble_eq_true rfl) dL_law_0 (fun h0 H hP hD hS => ?_)
  have hP : va_P (dC, dI) vwCl [(h0, .inr (0, [.null, .int 0, .null, .null, .int 0]))] H := hP
  have hD : va_D (lq_A s) [(h0, .inr (0, [.null, .int 0, .null, .null, .int 0]))] := hD
  refine W.widen (k := 1) (n := 5) (by omega) (by omega) ?_
  refine lv_dup hx hb dL_law_3 rfl ?_
  refine mk_callv (va_runI (As := []) (rest := [.ref h0]) ⟨hx, hb, hml, hown, hts⟩ (kx_init l (dC, dI) hty h0 [] (lq_A s)) (cwI 0 hts gL_law_X0_init rfl rfl rfl (hts (.initialized RX0) (by decide +kernel)) (hts (.methodLink RL 9 yX0_init) (by decide +kernel)) (hts (.instanceMethod yX0_init) (by decide +kernel)) rfl (by decide +kernel) ⟨Nat.le_of_ble_eq_true rfl, Nat.le_of_ble_eq_true rfl⟩) (mk_preS hK hP hD (fun q h => Nat.le_trans hS.1 h)) rfl rfl hl.1 rfl (lv_room (Nat.le_of_ble_eq_true rfl)) dL_law_4 ⟨Nat.le_of_ble_eq_true rfl, Nat.le_of_ble_eq_true rfl⟩) hS (fun w1 H locs ew hP hD hS => ?_)
  obtain ⟨hd, hc, hs, rfl⟩ := ew
  have hP : va_P (dC, dI) vwCl (cn_W cI h0 hd hc hs [] (fun _ => 0) (fun _ => 0) (fun _ => 0) 0 0) H := hP
  have hD : va_D (lq_A s) (cn_W cI h0 hd hc hs [] (fun _ => 0) (fun _ => 0) (fun _ => 0) 0 0) := hD
  refine W.widen (k := 4) (n := 25007) (by omega) (by omega) ?_
  refine lv_astore_n (lv' := [(1, .ref h0), (0, .ref b)]) hx hb dL_law_7 rfl hl (by decide) rfl (fun ls hl => ?_)
  refine va_new (ci := 1) (fs := [.null, .int 0, .null, .null, .int 0, .null, .int 0, .null, .int 0]) (C := RX1) (T := TX1) (N := 9) hx hb htsT lt_X1 tyX1 tyX1_ok hown (hts (.classLink RL 10 RX1) (by decide +kernel)) (hts (.instantiable RX1 9) (by decide +kernel)) (hts (.initialized RX1) (by decide +kernel)) hK hP hD hS hA rfl (fun j hj => by rcases (show j = 0 ∨ j = 1 ∨ j = 2 ∨ j = 3 ∨ j = 4 ∨ j = 5 ∨ j = 6 ∨ j = 7 ∨ j = 8 by omega) with rfl | rfl | rfl | rfl | rfl | rfl | rfl | rfl | rfl <;> rfl) (Nat.le_of_ble_eq_true rfl) (Nat.le_of_ble_eq_true rfl) dL_law_8 (fun m0 H hP hD hS => ?_)
  have hP : va_P (dC, dI) vwCl ((m0, .inr (1, [.null, .int 0, .null, .null, .int 0, .null, .int 0, .null, .int 0])) :: cn_W cI h0 hd hc hs [] (fun _ => 0) (fun _ => 0) (fun _ => 0) 0 0) H := hP.sub [4, 0, 1, 2, 3] rfl
  have hD : va_D (lq_A s) ((m0, .inr (1, [.null, .int 0, .null, .null, .int 0, .null, .int 0, .null, .int 0])) :: cn_W cI h0 hd hc hs [] (fun _ => 0) (fun _ => 0) (fun _ => 0) 0 0) := hD.sub [4, 0, 1, 2, 3] (by decide) rfl
  refine W.widen (k := 5) (n := 25016) (by omega) (by omega) ?_
  refine lv_dup hx hb dL_law_11 rfl ?_
  refine mk_callv (va_runI (As := []) (rest := [.ref m0]) ⟨hx, hb, hml, hown, hts⟩ (km_init l (dC, dI) hty m0 (cn_W cI h0 hd hc hs [] (fun _ => 0) (fun _ => 0) (fun _ => 0) 0 0) (lq_A s)) (cwI 0 hts gL_law_X1_init rfl rfl rfl (hts (.initialized RX1) (by decide +kernel)) (hts (.methodLink RL 12 yX1_init) (by decide +kernel)) (hts (.instanceMethod yX1_init) (by decide +kernel)) rfl (by decide +kernel) ⟨Nat.le_of_ble_eq_true rfl, Nat.le_of_ble_eq_true rfl⟩) (mk_preS hK hP hD (fun q h => Nat.le_trans hS.1 h)) rfl rfl hl.1 rfl (lv_room (Nat.le_of_ble_eq_true rfl)) dL_law_12 ⟨Nat.le_of_ble_eq_true rfl, Nat.le_of_ble_eq_true rfl⟩) hS (fun w2 H locs ew hP hD hS => ?_)
  obtain ⟨ms, mt, ml, md, mk, rfl⟩ := ew
  have hP : va_P (dC, dI) vwCl (cn_W cI h0 hd hc hs (md_W cI m0 ms mt ml md mk [] (fun _ => 0) (fun _ => 0) (fun _ => 0) (fun _ => 0) (fun _ => 0) 0 0 0 0) (fun _ => 0) (fun _ => 0) (fun _ => 0) 0 0) H := hP.sub [1, 2, 3, 4, 0, 5, 6, 7, 8, 9] rfl
  have hD : va_D (lq_A s) (cn_W cI h0 hd hc hs (md_W cI m0 ms mt ml md mk [] (fun _ => 0) (fun _ => 0) (fun _ => 0) (fun _ => 0) (fun _ => 0) 0 0 0 0) (fun _ => 0) (fun _ => 0) (fun _ => 0) 0 0) := hD.sub [1, 2, 3, 4, 0, 5, 6, 7, 8, 9] (by decide) rfl
  refine W.widen (k := 10) (n := 73018) (by omega) (by omega) ?_
  refine lv_astore_n (lv' := [(2, .ref m0), (1, .ref h0), (0, .ref b)]) hx hb dL_law_15 rfl hl (by decide) rfl (fun ls hl => ?_)
  refine lv_iconst (v := nI 0) hx hb dL_law_16 (by decide) ?_
  refine lv_istore_n (lv' := [(3, .int (nI 0)), (2, .ref m0), (1, .ref h0), (0, .ref b)]) hx hb dL_law_17 rfl hl (by decide) rfl (fun ls hl => ?_)
  exact lc_loop hL C0 hty hK hT0 hZ0 (L + 1) 0 [] [] _ H locs ls (by omega) (Nat.zero_le L) (lq_0 cI h0 hd hc hs m0 ms mt ml md mk) hP hD hS (lv_sub hl [3, 2, 1, 0] rfl)
