set_option maxHeartbeats 4000000 in
set_option maxRecDepth 100000 in
theorem lc_write {p : Program} {l : Launch} {e : Env} {s : State} {m : MethodId} {below : List Frame} {meth : Method} {c : Code} {b L : Nat} {xs : Nat → Int32} (hL : L ≤ 2048) (C0 : lw_At p s m meth c b L xs) {D : va_G} {tys : List (ClassId × FieldType)} {cI : ClassId} (hty : tys[0]? = some (cI, .int)) (hK : va_K D vwCl tys s) {h0 hd hc hs m0 ms mt ml md mk t : Nat} (hT0 : va_T .int t 32 (fun j => .int (sp_tb.getD j 0)) (lq_A s) s s.heap) (hZ0 : va_Z RX0 "NAME_STARTS" "[I" (.ref t) (lq_A s) s s.heap) {i : Nat} (hi : i + 4 ≤ L) {d : List Int32} {rows : List (List Int32)} {w : va_W} (hI : lq_I cI h0 hd hc hs m0 ms mt ml md mk d rows w) {H : Heap} {locs : List Loc} (hP : va_P D vwCl w H) (hD : va_D (lq_A s) w) (hS : va_S (lq_A s) s.heap H locs) {ls : Array Slot} (hl : lv_has ls 4 [(0, .ref b), (1, .ref h0), (2, .ref m0), (3, .int (nI i))]) (kk : ∀ (d' : List Int32) (rows' : List (List Int32)) (w' : va_W) (H' : Heap) (locs' : List Loc), lq_I cI h0 hd hc hs m0 ms mt ml md mk d' rows' w' → va_P D vwCl w' H' → va_D (lq_A s) w' → va_S (lq_A s) s.heap H' locs' → W p l e room_1 s m #[Value.ref b] below meth c H' locs' 10 73018 (lw_Z below #[Value.ref b] s) (F0 m 409 ls [])) : W p l e room_1 s m #[Value.ref b] below meth c H locs 10 73018 (lw_Z below #[Value.ref b] s) (F0 m 100 ls []) := by
  obtain ⟨hx, hb, hr, hml, hown, htsT, hX, hbl, hlocks, hgv⟩ := C0
  have hts : ∀ w ∈ wsL_law, w.before #[Value.ref b] s = true := fun w h => htsT w (wsL_law_in w h)
  have hown : s.vm.findClass RL = some m.cls := hown
  have hbA : ¬ lq_A s b := Nat.not_le.mpr hbl
  obtain ⟨dr, ch, st, n, rc, S, sg, ta, le, dr2, so, us, rc2, n2, sn, S2, rfl, hn, hR, hd1, hr1, hn2, hsn, hM, hd2, hr2, hpos⟩ := hI
  refine lv_aload_n hx hb dL_law_100 rfl (lv_at hl 1 rfl) ?_
  refine lv_aload_n hx hb dL_law_101 rfl (lv_at hl 0 rfl) ?_
  refine lv_iload_n hx hb dL_law_102 rfl (lv_at hl 3 rfl) ?_
  refine lv_iconst (v := nI 1) hx hb dL_law_103 (by decide) ?_
  refine rn_iadd hx hb dL_law_104 ?_
  refine rn_sld hx hb hX hbl hbA hS (by omega) (by omega) dL_law_105 ?_
  refine lv_aload_n hx hb dL_law_106 rfl (lv_at hl 0 rfl) ?_
  refine lv_iload_n hx hb dL_law_107 rfl (lv_at hl 3 rfl) ?_
  refine lv_iconst (v := nI 2) hx hb dL_law_108 (by decide) ?_
  refine rn_iadd hx hb dL_law_109 ?_
  refine rn_sld hx hb hX hbl hbA hS (by omega) (by omega) dL_law_110 ?_
  refine mu_calli (va_runV (As := [.int (xs (i + 1)), .int (xs (i + 2))]) (rest := []) ⟨hx, hb, hml, hown, hts⟩ (kx_write l D hty h0 hd hc hs (md_W cI m0 ms mt ml md mk [] sg ta le dr2 so us rc2 n2 sn) dr ch st n rc (lq_A s) S hR hn (xs (i + 1)) (xs (i + 2))) (cwV 2 hts gL_law_X0_write rfl rfl rfl (by decide +kernel) ⟨Nat.le_of_ble_eq_true rfl, Nat.le_of_ble_eq_true rfl⟩) (mu_preV hK hP hD 0 rfl rfl) rfl rfl hl.1 rfl (lv_room (Nat.le_of_ble_eq_true rfl)) dL_law_111 ⟨Nat.le_of_ble_eq_true rfl, Nat.le_of_ble_eq_true rfl⟩) hS (fun r1 w1 H locs er1 hP hD hS => ?_)
  obtain ⟨⟨dr', ch', st', n', rc', S', rfl, hn', hR', hd1', hr1'⟩, er1⟩ := er1
  refine lv_aload_n hx hb dL_law_114 rfl (lv_at hl 2 rfl) ?_
  refine lv_aload_n hx hb dL_law_115 rfl (lv_at hl 0 rfl) ?_
  refine lv_iload_n hx hb dL_law_116 rfl (lv_at hl 3 rfl) ?_
  refine lv_iconst (v := nI 1) hx hb dL_law_117 (by decide) ?_
  refine rn_iadd hx hb dL_law_118 ?_
  refine rn_sld hx hb hX hbl hbA hS (by omega) (by omega) dL_law_119 ?_
  refine lv_aload_n hx hb dL_law_120 rfl (lv_at hl 0 rfl) ?_
  refine lv_iload_n hx hb dL_law_121 rfl (lv_at hl 3 rfl) ?_
  refine lv_iconst (v := nI 2) hx hb dL_law_122 (by decide) ?_
  refine rn_iadd hx hb dL_law_123 ?_
  refine rn_sld hx hb hX hbl hbA hS (by omega) (by omega) dL_law_124 ?_
  have hPm : va_P D vwCl (md_W cI m0 ms mt ml md mk (cn_W cI h0 hd hc hs [] dr' ch' st' n' rc') sg ta le dr2 so us rc2 n2 sn) H := hP.sub [4, 5, 6, 7, 8, 9, 0, 1, 2, 3] rfl
  have hDm : va_D (lq_A s) (md_W cI m0 ms mt ml md mk (cn_W cI h0 hd hc hs [] dr' ch' st' n' rc') sg ta le dr2 so us rc2 n2 sn) := hD.sub [4, 5, 6, 7, 8, 9, 0, 1, 2, 3] (by decide) rfl
  refine mu_calli (va_runV (As := [.int (xs (i + 1)), .int (xs (i + 2))]) (rest := [.int r1]) ⟨hx, hb, hml, hown, hts⟩ (km_write l D hty m0 ms mt ml md mk (cn_W cI h0 hd hc hs [] dr' ch' st' n' rc') sg ta le dr2 so us rc2 n2 sn (lq_A s) S2 hM hn2 hsn (xs (i + 1)) (xs (i + 2))) (cwV 2 hts gL_law_X1_write rfl rfl rfl (by decide +kernel) ⟨Nat.le_of_ble_eq_true rfl, Nat.le_of_ble_eq_true rfl⟩) (mu_preV hK hPm hDm 0 rfl rfl) rfl rfl hl.1 rfl (lv_room (Nat.le_of_ble_eq_true rfl)) dL_law_125 ⟨Nat.le_of_ble_eq_true rfl, Nat.le_of_ble_eq_true rfl⟩) hS (fun r2 w2 H locs er2 hP hD hS => ?_)
  obtain ⟨⟨sg', ta', le', dr2', so', us', rc2', n2', sn', S2', rfl, hn2', hsn', hM', hd2', hr2'⟩, er2⟩ := er2
  have hP : va_P D vwCl (cn_W cI h0 hd hc hs (md_W cI m0 ms mt ml md mk [] sg' ta' le' dr2' so' us' rc2' n2' sn') dr' ch' st' n' rc') H := hP.sub [6, 7, 8, 9, 0, 1, 2, 3, 4, 5] rfl
  have hD : va_D (lq_A s) (cn_W cI h0 hd hc hs (md_W cI m0 ms mt ml md mk [] sg' ta' le' dr2' so' us' rc2' n2' sn') dr' ch' st' n' rc') := hD.sub [6, 7, 8, 9, 0, 1, 2, 3, 4, 5] (by decide) rfl
  have heq : r1 = r2 := by
    rw [er1, er2, ← hd1, ← hd2]
  refine lv_icmp_eq (tgt := 409) hx hb dL_law_128 (by decide) (fun _ => ?_) (fun z => absurd heq z)
  exact kk (sp_write d (xs (i + 1)) (xs (i + 2))).1 rows _ H locs ⟨dr', ch', st', n', rc', S', sg', ta', le', dr2', so', us', rc2', n2', sn', S2', rfl, hn', hR', (by first | (rw [hd1, hr1]; exact hd1') | (rw [hd1]; exact hd1') | (rw [hr1]; exact hd1') | exact hd1'), (hr1.trans hr1'), hn2', hsn', hM', (by first | (rw [hd2, hr2]; exact hd2') | (rw [hd2]; exact hd2') | (rw [hr2]; exact hd2') | exact hd2'), (hr2.trans hr2'), (ps_write hpos)⟩ hP hD hS
set_option maxHeartbeats 4000000 in
set_option maxRecDepth 100000 in
theorem lc_cut {p : Program} {l : Launch} {e : Env} {s : State} {m : MethodId} {below : List Frame} {meth : Method} {c : Code} {b L : Nat} {xs : Nat → Int32} (hL : L ≤ 2048) (C0 : lw_At p s m meth c b L xs) {D : va_G} {tys : List (ClassId × FieldType)} {cI : ClassId} (hty : tys[0]? = some (cI, .int)) (hK : va_K D vwCl tys s) {h0 hd hc hs m0 ms mt ml md mk t : Nat} (hT0 : va_T .int t 32 (fun j => .int (sp_tb.getD j 0)) (lq_A s) s s.heap) (hZ0 : va_Z RX0 "NAME_STARTS" "[I" (.ref t) (lq_A s) s s.heap) {i : Nat} (hi : i + 4 ≤ L) {d : List Int32} {rows : List (List Int32)} {w : va_W} (hI : lq_I cI h0 hd hc hs m0 ms mt ml md mk d rows w) {H : Heap} {locs : List Loc} (hP : va_P D vwCl w H) (hD : va_D (lq_A s) w) (hS : va_S (lq_A s) s.heap H locs) {ls : Array Slot} (hl : lv_has ls 4 [(0, .ref b), (1, .ref h0), (2, .ref m0), (3, .int (nI i))]) (kk : ∀ (d' : List Int32) (rows' : List (List Int32)) (w' : va_W) (H' : Heap) (locs' : List Loc), lq_I cI h0 hd hc hs m0 ms mt ml md mk d' rows' w' → va_P D vwCl w' H' → va_D (lq_A s) w' → va_S (lq_A s) s.heap H' locs' → W p l e room_1 s m #[Value.ref b] below meth c H' locs' 10 73018 (lw_Z below #[Value.ref b] s) (F0 m 409 ls [])) : W p l e room_1 s m #[Value.ref b] below meth c H locs 10 73018 (lw_Z below #[Value.ref b] s) (F0 m 133 ls []) := by
  obtain ⟨hx, hb, hr, hml, hown, htsT, hX, hbl, hlocks, hgv⟩ := C0
  have hts : ∀ w ∈ wsL_law, w.before #[Value.ref b] s = true := fun w h => htsT w (wsL_law_in w h)
  have hown : s.vm.findClass RL = some m.cls := hown
  have hbA : ¬ lq_A s b := Nat.not_le.mpr hbl
  obtain ⟨dr, ch, st, n, rc, S, sg, ta, le, dr2, so, us, rc2, n2, sn, S2, rfl, hn, hR, hd1, hr1, hn2, hsn, hM, hd2, hr2, hpos⟩ := hI
  refine lv_aload_n hx hb dL_law_133 rfl (lv_at hl 1 rfl) ?_
  refine lv_aload_n hx hb dL_law_134 rfl (lv_at hl 0 rfl) ?_
  refine lv_iload_n hx hb dL_law_135 rfl (lv_at hl 3 rfl) ?_
  refine lv_iconst (v := nI 1) hx hb dL_law_136 (by decide) ?_
  refine rn_iadd hx hb dL_law_137 ?_
  refine rn_sld hx hb hX hbl hbA hS (by omega) (by omega) dL_law_138 ?_
  refine mu_calli (va_runV (As := [.int (xs (i + 1))]) (rest := []) ⟨hx, hb, hml, hown, hts⟩ (kx_cut l D hty h0 hd hc hs (md_W cI m0 ms mt ml md mk [] sg ta le dr2 so us rc2 n2 sn) dr ch st n rc (lq_A s) S hR hn (xs (i + 1))) (cwV 1 hts gL_law_X0_cut rfl rfl rfl (by decide +kernel) ⟨Nat.le_of_ble_eq_true rfl, Nat.le_of_ble_eq_true rfl⟩) (mu_preV hK hP hD 0 rfl rfl) rfl rfl hl.1 rfl (lv_room (Nat.le_of_ble_eq_true rfl)) dL_law_139 ⟨Nat.le_of_ble_eq_true rfl, Nat.le_of_ble_eq_true rfl⟩) hS (fun r1 w1 H locs er1 hP hD hS => ?_)
  obtain ⟨⟨dr', ch', st', n', rc', S', rfl, hn', hR', hd1', hr1'⟩, er1⟩ := er1
  refine lv_aload_n hx hb dL_law_142 rfl (lv_at hl 2 rfl) ?_
  refine lv_aload_n hx hb dL_law_143 rfl (lv_at hl 0 rfl) ?_
  refine lv_iload_n hx hb dL_law_144 rfl (lv_at hl 3 rfl) ?_
  refine lv_iconst (v := nI 1) hx hb dL_law_145 (by decide) ?_
  refine rn_iadd hx hb dL_law_146 ?_
  refine rn_sld hx hb hX hbl hbA hS (by omega) (by omega) dL_law_147 ?_
  have hPm : va_P D vwCl (md_W cI m0 ms mt ml md mk (cn_W cI h0 hd hc hs [] dr' ch' st' n' rc') sg ta le dr2 so us rc2 n2 sn) H := hP.sub [4, 5, 6, 7, 8, 9, 0, 1, 2, 3] rfl
  have hDm : va_D (lq_A s) (md_W cI m0 ms mt ml md mk (cn_W cI h0 hd hc hs [] dr' ch' st' n' rc') sg ta le dr2 so us rc2 n2 sn) := hD.sub [4, 5, 6, 7, 8, 9, 0, 1, 2, 3] (by decide) rfl
  refine mu_calli (va_runV (As := [.int (xs (i + 1))]) (rest := [.int r1]) ⟨hx, hb, hml, hown, hts⟩ (km_cut l D hty m0 ms mt ml md mk (cn_W cI h0 hd hc hs [] dr' ch' st' n' rc') sg ta le dr2 so us rc2 n2 sn (lq_A s) S2 hM hn2 hsn (xs (i + 1))) (cwV 1 hts gL_law_X1_cut rfl rfl rfl (by decide +kernel) ⟨Nat.le_of_ble_eq_true rfl, Nat.le_of_ble_eq_true rfl⟩) (mu_preV hK hPm hDm 0 rfl rfl) rfl rfl hl.1 rfl (lv_room (Nat.le_of_ble_eq_true rfl)) dL_law_148 ⟨Nat.le_of_ble_eq_true rfl, Nat.le_of_ble_eq_true rfl⟩) hS (fun r2 w2 H locs er2 hP hD hS => ?_)
  obtain ⟨⟨sg', ta', le', dr2', so', us', rc2', n2', sn', S2', rfl, hn2', hsn', hM', hd2', hr2'⟩, er2⟩ := er2
  have hP : va_P D vwCl (cn_W cI h0 hd hc hs (md_W cI m0 ms mt ml md mk [] sg' ta' le' dr2' so' us' rc2' n2' sn') dr' ch' st' n' rc') H := hP.sub [6, 7, 8, 9, 0, 1, 2, 3, 4, 5] rfl
  have hD : va_D (lq_A s) (cn_W cI h0 hd hc hs (md_W cI m0 ms mt ml md mk [] sg' ta' le' dr2' so' us' rc2' n2' sn') dr' ch' st' n' rc') := hD.sub [6, 7, 8, 9, 0, 1, 2, 3, 4, 5] (by decide) rfl
  have heq : r1 = r2 := by
    rw [er1, er2, ← hd1, ← hd2]
  refine lv_icmp_eq (tgt := 409) hx hb dL_law_151 (by decide) (fun _ => ?_) (fun z => absurd heq z)
  exact kk (sp_cut d (xs (i + 1))).1 rows _ H locs ⟨dr', ch', st', n', rc', S', sg', ta', le', dr2', so', us', rc2', n2', sn', S2', rfl, hn', hR', (by first | (rw [hd1, hr1]; exact hd1') | (rw [hd1]; exact hd1') | (rw [hr1]; exact hd1') | exact hd1'), (hr1.trans hr1'), hn2', hsn', hM', (by first | (rw [hd2, hr2]; exact hd2') | (rw [hd2]; exact hd2') | (rw [hr2]; exact hd2') | exact hd2'), (hr2.trans hr2'), (ps_cut hpos)⟩ hP hD hS
set_option maxHeartbeats 4000000 in
set_option maxRecDepth 100000 in
theorem lc_number {p : Program} {l : Launch} {e : Env} {s : State} {m : MethodId} {below : List Frame} {meth : Method} {c : Code} {b L : Nat} {xs : Nat → Int32} (hL : L ≤ 2048) (C0 : lw_At p s m meth c b L xs) {D : va_G} {tys : List (ClassId × FieldType)} {cI : ClassId} (hty : tys[0]? = some (cI, .int)) (hK : va_K D vwCl tys s) {h0 hd hc hs m0 ms mt ml md mk t : Nat} (hT0 : va_T .int t 32 (fun j => .int (sp_tb.getD j 0)) (lq_A s) s s.heap) (hZ0 : va_Z RX0 "NAME_STARTS" "[I" (.ref t) (lq_A s) s s.heap) {i : Nat} (hi : i + 4 ≤ L) {d : List Int32} {rows : List (List Int32)} {w : va_W} (hI : lq_I cI h0 hd hc hs m0 ms mt ml md mk d rows w) {H : Heap} {locs : List Loc} (hP : va_P D vwCl w H) (hD : va_D (lq_A s) w) (hS : va_S (lq_A s) s.heap H locs) {ls : Array Slot} (hl : lv_has ls 4 [(0, .ref b), (1, .ref h0), (2, .ref m0), (3, .int (nI i))]) (kk : ∀ (d' : List Int32) (rows' : List (List Int32)) (w' : va_W) (H' : Heap) (locs' : List Loc), lq_I cI h0 hd hc hs m0 ms mt ml md mk d' rows' w' → va_P D vwCl w' H' → va_D (lq_A s) w' → va_S (lq_A s) s.heap H' locs' → W p l e room_1 s m #[Value.ref b] below meth c H' locs' 10 73018 (lw_Z below #[Value.ref b] s) (F0 m 409 ls [])) : W p l e room_1 s m #[Value.ref b] below meth c H locs 10 73018 (lw_Z below #[Value.ref b] s) (F0 m 156 ls []) := by
  obtain ⟨hx, hb, hr, hml, hown, htsT, hX, hbl, hlocks, hgv⟩ := C0
  have hts : ∀ w ∈ wsL_law, w.before #[Value.ref b] s = true := fun w h => htsT w (wsL_law_in w h)
  have hown : s.vm.findClass RL = some m.cls := hown
  have hbA : ¬ lq_A s b := Nat.not_le.mpr hbl
  obtain ⟨dr, ch, st, n, rc, S, sg, ta, le, dr2, so, us, rc2, n2, sn, S2, rfl, hn, hR, hd1, hr1, hn2, hsn, hM, hd2, hr2, hpos⟩ := hI
  refine lv_aload_n hx hb dL_law_156 rfl (lv_at hl 1 rfl) ?_
  refine mu_calli (va_runV (As := []) (rest := []) ⟨hx, hb, hml, hown, hts⟩ (kx_number l D hty h0 hd hc hs (md_W cI m0 ms mt ml md mk [] sg ta le dr2 so us rc2 n2 sn) dr ch st n rc (lq_A s) S hR hn ) (cwV 0 hts gL_law_X0_number rfl rfl rfl (by decide +kernel) ⟨Nat.le_of_ble_eq_true rfl, Nat.le_of_ble_eq_true rfl⟩) (mu_preV hK hP hD 0 rfl rfl) rfl rfl hl.1 rfl (lv_room (Nat.le_of_ble_eq_true rfl)) dL_law_157 ⟨Nat.le_of_ble_eq_true rfl, Nat.le_of_ble_eq_true rfl⟩) hS (fun r1 w1 H locs er1 hP hD hS => ?_)
  obtain ⟨⟨dr', ch', st', n', rc', S', rfl, hn', hR', hd1', hr1'⟩, er1⟩ := er1
  refine lv_aload_n hx hb dL_law_160 rfl (lv_at hl 2 rfl) ?_
  have hPm : va_P D vwCl (md_W cI m0 ms mt ml md mk (cn_W cI h0 hd hc hs [] dr' ch' st' n' rc') sg ta le dr2 so us rc2 n2 sn) H := hP.sub [4, 5, 6, 7, 8, 9, 0, 1, 2, 3] rfl
  have hDm : va_D (lq_A s) (md_W cI m0 ms mt ml md mk (cn_W cI h0 hd hc hs [] dr' ch' st' n' rc') sg ta le dr2 so us rc2 n2 sn) := hD.sub [4, 5, 6, 7, 8, 9, 0, 1, 2, 3] (by decide) rfl
  refine mu_calli (va_runV (As := []) (rest := [.int r1]) ⟨hx, hb, hml, hown, hts⟩ (km_number l D hty m0 ms mt ml md mk (cn_W cI h0 hd hc hs [] dr' ch' st' n' rc') sg ta le dr2 so us rc2 n2 sn (lq_A s) S2 hM hn2 hsn ) (cwV 0 hts gL_law_X1_number rfl rfl rfl (by decide +kernel) ⟨Nat.le_of_ble_eq_true rfl, Nat.le_of_ble_eq_true rfl⟩) (mu_preV hK hPm hDm 0 rfl rfl) rfl rfl hl.1 rfl (lv_room (Nat.le_of_ble_eq_true rfl)) dL_law_161 ⟨Nat.le_of_ble_eq_true rfl, Nat.le_of_ble_eq_true rfl⟩) hS (fun r2 w2 H locs er2 hP hD hS => ?_)
  obtain ⟨⟨sg', ta', le', dr2', so', us', rc2', n2', sn', S2', rfl, hn2', hsn', hM', hd2', hr2'⟩, er2⟩ := er2
  have hP : va_P D vwCl (cn_W cI h0 hd hc hs (md_W cI m0 ms mt ml md mk [] sg' ta' le' dr2' so' us' rc2' n2' sn') dr' ch' st' n' rc') H := hP.sub [6, 7, 8, 9, 0, 1, 2, 3, 4, 5] rfl
  have hD : va_D (lq_A s) (cn_W cI h0 hd hc hs (md_W cI m0 ms mt ml md mk [] sg' ta' le' dr2' so' us' rc2' n2' sn') dr' ch' st' n' rc') := hD.sub [6, 7, 8, 9, 0, 1, 2, 3, 4, 5] (by decide) rfl
  have heq : r1 = r2 := by
    rw [er1, er2, ← hr1, ← hr2, ← hd1, ← hd2]
  refine lv_icmp_eq (tgt := 409) hx hb dL_law_164 (by decide) (fun _ => ?_) (fun z => absurd heq z)
  rw [er1] at hd1'
  rw [er2] at hd2'
  exact kk (if (sp_numberOf rows d).2 = -1 then d else []) (sp_numberOf rows d).1 _ H locs ⟨dr', ch', st', n', rc', S', sg', ta', le', dr2', so', us', rc2', n2', sn', S2', rfl, hn', hR', (by first | (rw [hd1, hr1]; exact hd1') | (rw [hd1]; exact hd1') | (rw [hr1]; exact hd1') | exact hd1'), (by first | (rw [hr1, hd1]; exact hr1') | (rw [hr1]; exact hr1') | (rw [hd1]; exact hr1') | exact hr1'), hn2', hsn', hM', (by first | (rw [hd2, hr2]; exact hd2') | (rw [hd2]; exact hd2') | (rw [hr2]; exact hd2') | exact hd2'), (by first | (rw [hr2, hd2]; exact hr2') | (rw [hr2]; exact hr2') | (rw [hd2]; exact hr2') | exact hr2'), (ps_number hpos)⟩ hP hD hS
set_option maxHeartbeats 4000000 in
set_option maxRecDepth 100000 in
theorem lc_isKnown {p : Program} {l : Launch} {e : Env} {s : State} {m : MethodId} {below : List Frame} {meth : Method} {c : Code} {b L : Nat} {xs : Nat → Int32} (hL : L ≤ 2048) (C0 : lw_At p s m meth c b L xs) {D : va_G} {tys : List (ClassId × FieldType)} {cI : ClassId} (hty : tys[0]? = some (cI, .int)) (hK : va_K D vwCl tys s) {h0 hd hc hs m0 ms mt ml md mk t : Nat} (hT0 : va_T .int t 32 (fun j => .int (sp_tb.getD j 0)) (lq_A s) s s.heap) (hZ0 : va_Z RX0 "NAME_STARTS" "[I" (.ref t) (lq_A s) s s.heap) {i : Nat} (hi : i + 4 ≤ L) {d : List Int32} {rows : List (List Int32)} {w : va_W} (hI : lq_I cI h0 hd hc hs m0 ms mt ml md mk d rows w) {H : Heap} {locs : List Loc} (hP : va_P D vwCl w H) (hD : va_D (lq_A s) w) (hS : va_S (lq_A s) s.heap H locs) {ls : Array Slot} (hl : lv_has ls 4 [(0, .ref b), (1, .ref h0), (2, .ref m0), (3, .int (nI i))]) (kk : ∀ (d' : List Int32) (rows' : List (List Int32)) (w' : va_W) (H' : Heap) (locs' : List Loc), lq_I cI h0 hd hc hs m0 ms mt ml md mk d' rows' w' → va_P D vwCl w' H' → va_D (lq_A s) w' → va_S (lq_A s) s.heap H' locs' → W p l e room_1 s m #[Value.ref b] below meth c H' locs' 10 73018 (lw_Z below #[Value.ref b] s) (F0 m 409 ls [])) : W p l e room_1 s m #[Value.ref b] below meth c H locs 10 73018 (lw_Z below #[Value.ref b] s) (F0 m 169 ls []) := by
  obtain ⟨hx, hb, hr, hml, hown, htsT, hX, hbl, hlocks, hgv⟩ := C0
  have hts : ∀ w ∈ wsL_law, w.before #[Value.ref b] s = true := fun w h => htsT w (wsL_law_in w h)
  have hown : s.vm.findClass RL = some m.cls := hown
  have hbA : ¬ lq_A s b := Nat.not_le.mpr hbl
  obtain ⟨dr, ch, st, n, rc, S, sg, ta, le, dr2, so, us, rc2, n2, sn, S2, rfl, hn, hR, hd1, hr1, hn2, hsn, hM, hd2, hr2, hpos⟩ := hI
  refine lv_aload_n hx hb dL_law_169 rfl (lv_at hl 1 rfl) ?_
  refine vp_callSi (W.runV (As := []) (rest := []) ⟨hx, hb, hml, hown, hts⟩ (kx_isKnown l D hty h0 hd hc hs (md_W cI m0 ms mt ml md mk [] sg ta le dr2 so us rc2 n2 sn) dr ch st n rc S hR hn) (cwV 0 hts gL_law_X0_isKnown rfl rfl rfl (by decide +kernel) ⟨Nat.le_of_ble_eq_true rfl, Nat.le_of_ble_eq_true rfl⟩) (pu_preV hK hP 0 rfl rfl) rfl rfl hl.1 rfl (lv_room (Nat.le_of_ble_eq_true rfl)) dL_law_170 ⟨Nat.le_of_ble_eq_true rfl, Nat.le_of_ble_eq_true rfl⟩) (fun r1 er1 => ?_)
  refine lv_aload_n hx hb dL_law_173 rfl (lv_at hl 2 rfl) ?_
  have hPm : va_P D vwCl (md_W cI m0 ms mt ml md mk (cn_W cI h0 hd hc hs [] dr ch st n rc) sg ta le dr2 so us rc2 n2 sn) H := hP.sub [4, 5, 6, 7, 8, 9, 0, 1, 2, 3] rfl
  have hDm : va_D (lq_A s) (md_W cI m0 ms mt ml md mk (cn_W cI h0 hd hc hs [] dr ch st n rc) sg ta le dr2 so us rc2 n2 sn) := hD.sub [4, 5, 6, 7, 8, 9, 0, 1, 2, 3] (by decide) rfl
  refine mu_calli (va_runV (As := []) (rest := [.int r1]) ⟨hx, hb, hml, hown, hts⟩ (km_isKnown l D hty m0 ms mt ml md mk (cn_W cI h0 hd hc hs [] dr ch st n rc) sg ta le dr2 so us rc2 n2 sn (lq_A s) S2 hM hn2 hsn ) (cwV 0 hts gL_law_X1_isKnown rfl rfl rfl (by decide +kernel) ⟨Nat.le_of_ble_eq_true rfl, Nat.le_of_ble_eq_true rfl⟩) (mu_preV hK hPm hDm 0 rfl rfl) rfl rfl hl.1 rfl (lv_room (Nat.le_of_ble_eq_true rfl)) dL_law_174 ⟨Nat.le_of_ble_eq_true rfl, Nat.le_of_ble_eq_true rfl⟩) hS (fun r2 w2 H locs er2 hP hD hS => ?_)
  obtain ⟨⟨sg', ta', le', dr2', so', us', rc2', n2', sn', S2', rfl, hn2', hsn', hM', hd2', hr2'⟩, er2⟩ := er2
  have hP : va_P D vwCl (cn_W cI h0 hd hc hs (md_W cI m0 ms mt ml md mk [] sg' ta' le' dr2' so' us' rc2' n2' sn') dr ch st n rc) H := hP.sub [6, 7, 8, 9, 0, 1, 2, 3, 4, 5] rfl
  have hD : va_D (lq_A s) (cn_W cI h0 hd hc hs (md_W cI m0 ms mt ml md mk [] sg' ta' le' dr2' so' us' rc2' n2' sn') dr ch st n rc) := hD.sub [6, 7, 8, 9, 0, 1, 2, 3, 4, 5] (by decide) rfl
  have heq : r1 = r2 := by
    rw [er1, er2, ← hr1, ← hr2, ← hd1, ← hd2]
  refine lv_icmp_eq (tgt := 409) hx hb dL_law_177 (by decide) (fun _ => ?_) (fun z => absurd heq z)
  exact kk d rows _ H locs ⟨dr, ch, st, n, rc, S, sg', ta', le', dr2', so', us', rc2', n2', sn', S2', rfl, hn, hR, hd1, hr1, hn2', hsn', hM', (hd2.trans hd2'), (hr2.trans hr2'), hpos⟩ hP hD hS
set_option maxHeartbeats 4000000 in
set_option maxRecDepth 100000 in
theorem lc_take {p : Program} {l : Launch} {e : Env} {s : State} {m : MethodId} {below : List Frame} {meth : Method} {c : Code} {b L : Nat} {xs : Nat → Int32} (hL : L ≤ 2048) (C0 : lw_At p s m meth c b L xs) {D : va_G} {tys : List (ClassId × FieldType)} {cI : ClassId} (hty : tys[0]? = some (cI, .int)) (hK : va_K D vwCl tys s) {h0 hd hc hs m0 ms mt ml md mk t : Nat} (hT0 : va_T .int t 32 (fun j => .int (sp_tb.getD j 0)) (lq_A s) s s.heap) (hZ0 : va_Z RX0 "NAME_STARTS" "[I" (.ref t) (lq_A s) s s.heap) {i : Nat} (hi : i + 4 ≤ L) {d : List Int32} {rows : List (List Int32)} {w : va_W} (hI : lq_I cI h0 hd hc hs m0 ms mt ml md mk d rows w) {H : Heap} {locs : List Loc} (hP : va_P D vwCl w H) (hD : va_D (lq_A s) w) (hS : va_S (lq_A s) s.heap H locs) {ls : Array Slot} (hl : lv_has ls 4 [(0, .ref b), (1, .ref h0), (2, .ref m0), (3, .int (nI i))]) (kk : ∀ (d' : List Int32) (rows' : List (List Int32)) (w' : va_W) (H' : Heap) (locs' : List Loc), lq_I cI h0 hd hc hs m0 ms mt ml md mk d' rows' w' → va_P D vwCl w' H' → va_D (lq_A s) w' → va_S (lq_A s) s.heap H' locs' → W p l e room_1 s m #[Value.ref b] below meth c H' locs' 10 73018 (lw_Z below #[Value.ref b] s) (F0 m 409 ls [])) : W p l e room_1 s m #[Value.ref b] below meth c H locs 10 73018 (lw_Z below #[Value.ref b] s) (F0 m 182 ls []) := by
  obtain ⟨hx, hb, hr, hml, hown, htsT, hX, hbl, hlocks, hgv⟩ := C0
  have hts : ∀ w ∈ wsL_law, w.before #[Value.ref b] s = true := fun w h => htsT w (wsL_law_in w h)
  have hown : s.vm.findClass RL = some m.cls := hown
  have hbA : ¬ lq_A s b := Nat.not_le.mpr hbl
  obtain ⟨dr, ch, st, n, rc, S, sg, ta, le, dr2, so, us, rc2, n2, sn, S2, rfl, hn, hR, hd1, hr1, hn2, hsn, hM, hd2, hr2, hpos⟩ := hI
  refine lv_aload_n hx hb dL_law_182 rfl (lv_at hl 1 rfl) ?_
  refine lv_aload_n hx hb dL_law_183 rfl (lv_at hl 0 rfl) ?_
  refine lv_iload_n hx hb dL_law_184 rfl (lv_at hl 3 rfl) ?_
  refine lv_iconst (v := nI 1) hx hb dL_law_185 (by decide) ?_
  refine rn_iadd hx hb dL_law_186 ?_
  refine rn_sld hx hb hX hbl hbA hS (by omega) (by omega) dL_law_187 ?_
  refine mu_calli (va_runV (As := [.int (xs (i + 1))]) (rest := []) ⟨hx, hb, hml, hown, hts⟩ (kx_take l D hty h0 hd hc hs (md_W cI m0 ms mt ml md mk [] sg ta le dr2 so us rc2 n2 sn) dr ch st n rc (lq_A s) S hR hn (xs (i + 1))) (cwV 1 hts gL_law_X0_take rfl rfl rfl (by decide +kernel) ⟨Nat.le_of_ble_eq_true rfl, Nat.le_of_ble_eq_true rfl⟩) (mu_preV hK hP hD 0 rfl rfl) rfl rfl hl.1 rfl (lv_room (Nat.le_of_ble_eq_true rfl)) dL_law_188 ⟨Nat.le_of_ble_eq_true rfl, Nat.le_of_ble_eq_true rfl⟩) hS (fun r1 w1 H locs er1 hP hD hS => ?_)
  obtain ⟨⟨dr', ch', st', n', rc', S', rfl, hn', hR', hd1', hr1'⟩, er1⟩ := er1
  refine lv_aload_n hx hb dL_law_191 rfl (lv_at hl 2 rfl) ?_
  refine lv_aload_n hx hb dL_law_192 rfl (lv_at hl 0 rfl) ?_
  refine lv_iload_n hx hb dL_law_193 rfl (lv_at hl 3 rfl) ?_
  refine lv_iconst (v := nI 1) hx hb dL_law_194 (by decide) ?_
  refine rn_iadd hx hb dL_law_195 ?_
  refine rn_sld hx hb hX hbl hbA hS (by omega) (by omega) dL_law_196 ?_
  have hPm : va_P D vwCl (md_W cI m0 ms mt ml md mk (cn_W cI h0 hd hc hs [] dr' ch' st' n' rc') sg ta le dr2 so us rc2 n2 sn) H := hP.sub [4, 5, 6, 7, 8, 9, 0, 1, 2, 3] rfl
  have hDm : va_D (lq_A s) (md_W cI m0 ms mt ml md mk (cn_W cI h0 hd hc hs [] dr' ch' st' n' rc') sg ta le dr2 so us rc2 n2 sn) := hD.sub [4, 5, 6, 7, 8, 9, 0, 1, 2, 3] (by decide) rfl
  refine mu_calli (va_runV (As := [.int (xs (i + 1))]) (rest := [.int r1]) ⟨hx, hb, hml, hown, hts⟩ (km_take l D hty m0 ms mt ml md mk (cn_W cI h0 hd hc hs [] dr' ch' st' n' rc') sg ta le dr2 so us rc2 n2 sn (lq_A s) S2 hM hn2 hsn (xs (i + 1))) (cwV 1 hts gL_law_X1_take rfl rfl rfl (by decide +kernel) ⟨Nat.le_of_ble_eq_true rfl, Nat.le_of_ble_eq_true rfl⟩) (mu_preV hK hPm hDm 0 rfl rfl) rfl rfl hl.1 rfl (lv_room (Nat.le_of_ble_eq_true rfl)) dL_law_197 ⟨Nat.le_of_ble_eq_true rfl, Nat.le_of_ble_eq_true rfl⟩) hS (fun r2 w2 H locs er2 hP hD hS => ?_)
  obtain ⟨⟨sg', ta', le', dr2', so', us', rc2', n2', sn', S2', rfl, hn2', hsn', hM', hd2', hr2'⟩, er2⟩ := er2
  have hP : va_P D vwCl (cn_W cI h0 hd hc hs (md_W cI m0 ms mt ml md mk [] sg' ta' le' dr2' so' us' rc2' n2' sn') dr' ch' st' n' rc') H := hP.sub [6, 7, 8, 9, 0, 1, 2, 3, 4, 5] rfl
  have hD : va_D (lq_A s) (cn_W cI h0 hd hc hs (md_W cI m0 ms mt ml md mk [] sg' ta' le' dr2' so' us' rc2' n2' sn') dr' ch' st' n' rc') := hD.sub [6, 7, 8, 9, 0, 1, 2, 3, 4, 5] (by decide) rfl
  have heq : r1 = r2 := by
    rw [er1, er2, ← hr1, ← hr2, ← hd1, ← hd2]
  refine lv_icmp_eq (tgt := 409) hx hb dL_law_200 (by decide) (fun _ => ?_) (fun z => absurd heq z)
  exact kk (sp_take_ rows d (xs (i + 1))).1 rows _ H locs ⟨dr', ch', st', n', rc', S', sg', ta', le', dr2', so', us', rc2', n2', sn', S2', rfl, hn', hR', (by first | (rw [hd1, hr1]; exact hd1') | (rw [hd1]; exact hd1') | (rw [hr1]; exact hd1') | exact hd1'), (hr1.trans hr1'), hn2', hsn', hM', (by first | (rw [hd2, hr2]; exact hd2') | (rw [hd2]; exact hd2') | (rw [hr2]; exact hd2') | exact hd2'), (hr2.trans hr2'), (ps_take hpos)⟩ hP hD hS
set_option maxHeartbeats 4000000 in
set_option maxRecDepth 100000 in
theorem lc_rows {p : Program} {l : Launch} {e : Env} {s : State} {m : MethodId} {below : List Frame} {meth : Method} {c : Code} {b L : Nat} {xs : Nat → Int32} (hL : L ≤ 2048) (C0 : lw_At p s m meth c b L xs) {D : va_G} {tys : List (ClassId × FieldType)} {cI : ClassId} (hty : tys[0]? = some (cI, .int)) (hK : va_K D vwCl tys s) {h0 hd hc hs m0 ms mt ml md mk t : Nat} (hT0 : va_T .int t 32 (fun j => .int (sp_tb.getD j 0)) (lq_A s) s s.heap) (hZ0 : va_Z RX0 "NAME_STARTS" "[I" (.ref t) (lq_A s) s s.heap) {i : Nat} (hi : i + 4 ≤ L) {d : List Int32} {rows : List (List Int32)} {w : va_W} (hI : lq_I cI h0 hd hc hs m0 ms mt ml md mk d rows w) {H : Heap} {locs : List Loc} (hP : va_P D vwCl w H) (hD : va_D (lq_A s) w) (hS : va_S (lq_A s) s.heap H locs) {ls : Array Slot} (hl : lv_has ls 4 [(0, .ref b), (1, .ref h0), (2, .ref m0), (3, .int (nI i))]) (kk : ∀ (d' : List Int32) (rows' : List (List Int32)) (w' : va_W) (H' : Heap) (locs' : List Loc), lq_I cI h0 hd hc hs m0 ms mt ml md mk d' rows' w' → va_P D vwCl w' H' → va_D (lq_A s) w' → va_S (lq_A s) s.heap H' locs' → W p l e room_1 s m #[Value.ref b] below meth c H' locs' 10 73018 (lw_Z below #[Value.ref b] s) (F0 m 409 ls [])) : W p l e room_1 s m #[Value.ref b] below meth c H locs 10 73018 (lw_Z below #[Value.ref b] s) (F0 m 205 ls []) := by
  obtain ⟨hx, hb, hr, hml, hown, htsT, hX, hbl, hlocks, hgv⟩ := C0
  have hts : ∀ w ∈ wsL_law, w.before #[Value.ref b] s = true := fun w h => htsT w (wsL_law_in w h)
  have hown : s.vm.findClass RL = some m.cls := hown
  have hbA : ¬ lq_A s b := Nat.not_le.mpr hbl
  obtain ⟨dr, ch, st, n, rc, S, sg, ta, le, dr2, so, us, rc2, n2, sn, S2, rfl, hn, hR, hd1, hr1, hn2, hsn, hM, hd2, hr2, hpos⟩ := hI
  refine lv_aload_n hx hb dL_law_205 rfl (lv_at hl 1 rfl) ?_
  refine vp_callSi (W.runV (As := []) (rest := []) ⟨hx, hb, hml, hown, hts⟩ (kx_rows l D hty h0 hd hc hs (md_W cI m0 ms mt ml md mk [] sg ta le dr2 so us rc2 n2 sn) dr ch st n rc ) (cwV 0 hts gL_law_X0_rows rfl rfl rfl (by decide +kernel) ⟨Nat.le_of_ble_eq_true rfl, Nat.le_of_ble_eq_true rfl⟩) (pu_preV hK hP 0 rfl rfl) rfl rfl hl.1 rfl (lv_room (Nat.le_of_ble_eq_true rfl)) dL_law_206 ⟨Nat.le_of_ble_eq_true rfl, Nat.le_of_ble_eq_true rfl⟩) (fun r1 er1 => ?_)
  refine lv_aload_n hx hb dL_law_209 rfl (lv_at hl 2 rfl) ?_
  have hPm : va_P D vwCl (md_W cI m0 ms mt ml md mk (cn_W cI h0 hd hc hs [] dr ch st n rc) sg ta le dr2 so us rc2 n2 sn) H := hP.sub [4, 5, 6, 7, 8, 9, 0, 1, 2, 3] rfl
  refine vp_callSi (W.runV (As := []) (rest := [.int r1]) ⟨hx, hb, hml, hown, hts⟩ (km_rows l D hty m0 ms mt ml md mk (cn_W cI h0 hd hc hs [] dr ch st n rc) sg ta le dr2 so us rc2 n2 sn ) (cwV 0 hts gL_law_X1_rows rfl rfl rfl (by decide +kernel) ⟨Nat.le_of_ble_eq_true rfl, Nat.le_of_ble_eq_true rfl⟩) (pu_preV hK hPm 0 rfl rfl) rfl rfl hl.1 rfl (lv_room (Nat.le_of_ble_eq_true rfl)) dL_law_210 ⟨Nat.le_of_ble_eq_true rfl, Nat.le_of_ble_eq_true rfl⟩) (fun r2 er2 => ?_)
  have heq : r1 = r2 := by
    have g1 := congrArg List.length hr1
    have g2 := congrArg List.length hr2
    rw [cn_rows_len] at g1 g2
    rw [er1, er2, ← g1, ← g2]
  refine lv_icmp_eq (tgt := 409) hx hb dL_law_213 (by decide) (fun _ => ?_) (fun z => absurd heq z)
  exact kk d rows _ H locs ⟨dr, ch, st, n, rc, S, sg, ta, le, dr2, so, us, rc2, n2, sn, S2, rfl, hn, hR, hd1, hr1, hn2, hsn, hM, hd2, hr2, hpos⟩ hP hD hS
set_option maxHeartbeats 4000000 in
set_option maxRecDepth 100000 in
theorem lc_length {p : Program} {l : Launch} {e : Env} {s : State} {m : MethodId} {below : List Frame} {meth : Method} {c : Code} {b L : Nat} {xs : Nat → Int32} (hL : L ≤ 2048) (C0 : lw_At p s m meth c b L xs) {D : va_G} {tys : List (ClassId × FieldType)} {cI : ClassId} (hty : tys[0]? = some (cI, .int)) (hK : va_K D vwCl tys s) {h0 hd hc hs m0 ms mt ml md mk t : Nat} (hT0 : va_T .int t 32 (fun j => .int (sp_tb.getD j 0)) (lq_A s) s s.heap) (hZ0 : va_Z RX0 "NAME_STARTS" "[I" (.ref t) (lq_A s) s s.heap) {i : Nat} (hi : i + 4 ≤ L) {d : List Int32} {rows : List (List Int32)} {w : va_W} (hI : lq_I cI h0 hd hc hs m0 ms mt ml md mk d rows w) {H : Heap} {locs : List Loc} (hP : va_P D vwCl w H) (hD : va_D (lq_A s) w) (hS : va_S (lq_A s) s.heap H locs) {ls : Array Slot} (hl : lv_has ls 4 [(0, .ref b), (1, .ref h0), (2, .ref m0), (3, .int (nI i))]) (kk : ∀ (d' : List Int32) (rows' : List (List Int32)) (w' : va_W) (H' : Heap) (locs' : List Loc), lq_I cI h0 hd hc hs m0 ms mt ml md mk d' rows' w' → va_P D vwCl w' H' → va_D (lq_A s) w' → va_S (lq_A s) s.heap H' locs' → W p l e room_1 s m #[Value.ref b] below meth c H' locs' 10 73018 (lw_Z below #[Value.ref b] s) (F0 m 409 ls [])) : W p l e room_1 s m #[Value.ref b] below meth c H locs 10 73018 (lw_Z below #[Value.ref b] s) (F0 m 218 ls []) := by
  obtain ⟨hx, hb, hr, hml, hown, htsT, hX, hbl, hlocks, hgv⟩ := C0
  have hts : ∀ w ∈ wsL_law, w.before #[Value.ref b] s = true := fun w h => htsT w (wsL_law_in w h)
  have hown : s.vm.findClass RL = some m.cls := hown
  have hbA : ¬ lq_A s b := Nat.not_le.mpr hbl
  obtain ⟨dr, ch, st, n, rc, S, sg, ta, le, dr2, so, us, rc2, n2, sn, S2, rfl, hn, hR, hd1, hr1, hn2, hsn, hM, hd2, hr2, hpos⟩ := hI
  refine lv_aload_n hx hb dL_law_218 rfl (lv_at hl 1 rfl) ?_
  refine lv_aload_n hx hb dL_law_219 rfl (lv_at hl 0 rfl) ?_
  refine lv_iload_n hx hb dL_law_220 rfl (lv_at hl 3 rfl) ?_
  refine lv_iconst (v := nI 1) hx hb dL_law_221 (by decide) ?_
  refine rn_iadd hx hb dL_law_222 ?_
  refine rn_sld hx hb hX hbl hbA hS (by omega) (by omega) dL_law_223 ?_
  refine vp_callSi (W.runV (As := [.int (xs (i + 1))]) (rest := []) ⟨hx, hb, hml, hown, hts⟩ (kx_length l D hty h0 hd hc hs (md_W cI m0 ms mt ml md mk [] sg ta le dr2 so us rc2 n2 sn) dr ch st n rc S hR (xs (i + 1))) (cwV 1 hts gL_law_X0_length rfl rfl rfl (by decide +kernel) ⟨Nat.le_of_ble_eq_true rfl, Nat.le_of_ble_eq_true rfl⟩) (pu_preV hK hP 0 rfl rfl) rfl rfl hl.1 rfl (lv_room (Nat.le_of_ble_eq_true rfl)) dL_law_224 ⟨Nat.le_of_ble_eq_true rfl, Nat.le_of_ble_eq_true rfl⟩) (fun r1 er1 => ?_)
  refine lv_aload_n hx hb dL_law_227 rfl (lv_at hl 2 rfl) ?_
  refine lv_aload_n hx hb dL_law_228 rfl (lv_at hl 0 rfl) ?_
  refine lv_iload_n hx hb dL_law_229 rfl (lv_at hl 3 rfl) ?_
  refine lv_iconst (v := nI 1) hx hb dL_law_230 (by decide) ?_
  refine rn_iadd hx hb dL_law_231 ?_
  refine rn_sld hx hb hX hbl hbA hS (by omega) (by omega) dL_law_232 ?_
  have hPm : va_P D vwCl (md_W cI m0 ms mt ml md mk (cn_W cI h0 hd hc hs [] dr ch st n rc) sg ta le dr2 so us rc2 n2 sn) H := hP.sub [4, 5, 6, 7, 8, 9, 0, 1, 2, 3] rfl
  refine vp_callSi (W.runV (As := [.int (xs (i + 1))]) (rest := [.int r1]) ⟨hx, hb, hml, hown, hts⟩ (km_length l D hty m0 ms mt ml md mk (cn_W cI h0 hd hc hs [] dr ch st n rc) sg ta le dr2 so us rc2 n2 sn S2 hM (xs (i + 1))) (cwV 1 hts gL_law_X1_length rfl rfl rfl (by decide +kernel) ⟨Nat.le_of_ble_eq_true rfl, Nat.le_of_ble_eq_true rfl⟩) (pu_preV hK hPm 0 rfl rfl) rfl rfl hl.1 rfl (lv_room (Nat.le_of_ble_eq_true rfl)) dL_law_233 ⟨Nat.le_of_ble_eq_true rfl, Nat.le_of_ble_eq_true rfl⟩) (fun r2 er2 => ?_)
  have heq : r1 = r2 := by
    rw [er1, er2, ← hr1, ← hr2]
  refine lv_icmp_eq (tgt := 409) hx hb dL_law_236 (by decide) (fun _ => ?_) (fun z => absurd heq z)
  exact kk d rows _ H locs ⟨dr, ch, st, n, rc, S, sg, ta, le, dr2, so, us, rc2, n2, sn, S2, rfl, hn, hR, hd1, hr1, hn2, hsn, hM, hd2, hr2, hpos⟩ hP hD hS
set_option maxHeartbeats 4000000 in
set_option maxRecDepth 100000 in
theorem lc_sign {p : Program} {l : Launch} {e : Env} {s : State} {m : MethodId} {below : List Frame} {meth : Method} {c : Code} {b L : Nat} {xs : Nat → Int32} (hL : L ≤ 2048) (C0 : lw_At p s m meth c b L xs) {D : va_G} {tys : List (ClassId × FieldType)} {cI : ClassId} (hty : tys[0]? = some (cI, .int)) (hK : va_K D vwCl tys s) {h0 hd hc hs m0 ms mt ml md mk t : Nat} (hT0 : va_T .int t 32 (fun j => .int (sp_tb.getD j 0)) (lq_A s) s s.heap) (hZ0 : va_Z RX0 "NAME_STARTS" "[I" (.ref t) (lq_A s) s s.heap) {i : Nat} (hi : i + 4 ≤ L) {d : List Int32} {rows : List (List Int32)} {w : va_W} (hI : lq_I cI h0 hd hc hs m0 ms mt ml md mk d rows w) {H : Heap} {locs : List Loc} (hP : va_P D vwCl w H) (hD : va_D (lq_A s) w) (hS : va_S (lq_A s) s.heap H locs) {ls : Array Slot} (hl : lv_has ls 4 [(0, .ref b), (1, .ref h0), (2, .ref m0), (3, .int (nI i))]) (kk : ∀ (d' : List Int32) (rows' : List (List Int32)) (w' : va_W) (H' : Heap) (locs' : List Loc), lq_I cI h0 hd hc hs m0 ms mt ml md mk d' rows' w' → va_P D vwCl w' H' → va_D (lq_A s) w' → va_S (lq_A s) s.heap H' locs' → W p l e room_1 s m #[Value.ref b] below meth c H' locs' 10 73018 (lw_Z below #[Value.ref b] s) (F0 m 409 ls [])) : W p l e room_1 s m #[Value.ref b] below meth c H locs 10 73018 (lw_Z below #[Value.ref b] s) (F0 m 241 ls []) := by
  obtain ⟨hx, hb, hr, hml, hown, htsT, hX, hbl, hlocks, hgv⟩ := C0
  have hts : ∀ w ∈ wsL_law, w.before #[Value.ref b] s = true := fun w h => htsT w (wsL_law_in w h)
  have hown : s.vm.findClass RL = some m.cls := hown
  have hbA : ¬ lq_A s b := Nat.not_le.mpr hbl
  obtain ⟨dr, ch, st, n, rc, S, sg, ta, le, dr2, so, us, rc2, n2, sn, S2, rfl, hn, hR, hd1, hr1, hn2, hsn, hM, hd2, hr2, hpos⟩ := hI
  refine lv_aload_n hx hb dL_law_241 rfl (lv_at hl 1 rfl) ?_
  refine lv_aload_n hx hb dL_law_242 rfl (lv_at hl 0 rfl) ?_
  refine lv_iload_n hx hb dL_law_243 rfl (lv_at hl 3 rfl) ?_
  refine lv_iconst (v := nI 1) hx hb dL_law_244 (by decide) ?_
  refine rn_iadd hx hb dL_law_245 ?_
  refine rn_sld hx hb hX hbl hbA hS (by omega) (by omega) dL_law_246 ?_
  refine lv_aload_n hx hb dL_law_247 rfl (lv_at hl 0 rfl) ?_
  refine lv_iload_n hx hb dL_law_248 rfl (lv_at hl 3 rfl) ?_
  refine lv_iconst (v := nI 2) hx hb dL_law_249 (by decide) ?_
  refine rn_iadd hx hb dL_law_250 ?_
  refine rn_sld hx hb hX hbl hbA hS (by omega) (by omega) dL_law_251 ?_
  refine vp_callSi (W.runV (As := [.int (xs (i + 1)), .int (xs (i + 2))]) (rest := []) ⟨hx, hb, hml, hown, hts⟩ (kx_sign l D hty h0 hd hc hs (md_W cI m0 ms mt ml md mk [] sg ta le dr2 so us rc2 n2 sn) dr ch st n rc S hR (xs (i + 1)) (xs (i + 2))) (cwV 2 hts gL_law_X0_sign rfl rfl rfl (by decide +kernel) ⟨Nat.le_of_ble_eq_true rfl, Nat.le_of_ble_eq_true rfl⟩) (pu_preV hK hP 0 rfl rfl) rfl rfl hl.1 rfl (lv_room (Nat.le_of_ble_eq_true rfl)) dL_law_252 ⟨Nat.le_of_ble_eq_true rfl, Nat.le_of_ble_eq_true rfl⟩) (fun r1 er1 => ?_)
  refine lv_aload_n hx hb dL_law_255 rfl (lv_at hl 2 rfl) ?_
  refine lv_aload_n hx hb dL_law_256 rfl (lv_at hl 0 rfl) ?_
  refine lv_iload_n hx hb dL_law_257 rfl (lv_at hl 3 rfl) ?_
  refine lv_iconst (v := nI 1) hx hb dL_law_258 (by decide) ?_
  refine rn_iadd hx hb dL_law_259 ?_
  refine rn_sld hx hb hX hbl hbA hS (by omega) (by omega) dL_law_260 ?_
  refine lv_aload_n hx hb dL_law_261 rfl (lv_at hl 0 rfl) ?_
  refine lv_iload_n hx hb dL_law_262 rfl (lv_at hl 3 rfl) ?_
  refine lv_iconst (v := nI 2) hx hb dL_law_263 (by decide) ?_
  refine rn_iadd hx hb dL_law_264 ?_
  refine rn_sld hx hb hX hbl hbA hS (by omega) (by omega) dL_law_265 ?_
  have hPm : va_P D vwCl (md_W cI m0 ms mt ml md mk (cn_W cI h0 hd hc hs [] dr ch st n rc) sg ta le dr2 so us rc2 n2 sn) H := hP.sub [4, 5, 6, 7, 8, 9, 0, 1, 2, 3] rfl
  refine vp_callSi (W.runV (As := [.int (xs (i + 1)), .int (xs (i + 2))]) (rest := [.int r1]) ⟨hx, hb, hml, hown, hts⟩ (km_sign l D hty m0 ms mt ml md mk (cn_W cI h0 hd hc hs [] dr ch st n rc) sg ta le dr2 so us rc2 n2 sn S2 hM (xs (i + 1)) (xs (i + 2))) (cwV 2 hts gL_law_X1_sign rfl rfl rfl (by decide +kernel) ⟨Nat.le_of_ble_eq_true rfl, Nat.le_of_ble_eq_true rfl⟩) (pu_preV hK hPm 0 rfl rfl) rfl rfl hl.1 rfl (lv_room (Nat.le_of_ble_eq_true rfl)) dL_law_266 ⟨Nat.le_of_ble_eq_true rfl, Nat.le_of_ble_eq_true rfl⟩) (fun r2 er2 => ?_)
  have heq : r1 = r2 := by
    rw [er1, er2, ← hr1, ← hr2]
  refine lv_icmp_eq (tgt := 409) hx hb dL_law_269 (by decide) (fun _ => ?_) (fun z => absurd heq z)
  exact kk d rows _ H locs ⟨dr, ch, st, n, rc, S, sg, ta, le, dr2, so, us, rc2, n2, sn, S2, rfl, hn, hR, hd1, hr1, hn2, hsn, hM, hd2, hr2, hpos⟩ hP hD hS
set_option maxHeartbeats 4000000 in
set_option maxRecDepth 100000 in
theorem lc_compare {p : Program} {l : Launch} {e : Env} {s : State} {m : MethodId} {below : List Frame} {meth : Method} {c : Code} {b L : Nat} {xs : Nat → Int32} (hL : L ≤ 2048) (C0 : lw_At p s m meth c b L xs) {D : va_G} {tys : List (ClassId × FieldType)} {cI : ClassId} (hty : tys[0]? = some (cI, .int)) (hK : va_K D vwCl tys s) {h0 hd hc hs m0 ms mt ml md mk t : Nat} (hT0 : va_T .int t 32 (fun j => .int (sp_tb.getD j 0)) (lq_A s) s s.heap) (hZ0 : va_Z RX0 "NAME_STARTS" "[I" (.ref t) (lq_A s) s s.heap) {i : Nat} (hi : i + 4 ≤ L) {d : List Int32} {rows : List (List Int32)} {w : va_W} (hI : lq_I cI h0 hd hc hs m0 ms mt ml md mk d rows w) {H : Heap} {locs : List Loc} (hP : va_P D vwCl w H) (hD : va_D (lq_A s) w) (hS : va_S (lq_A s) s.heap H locs) {ls : Array Slot} (hl : lv_has ls 4 [(0, .ref b), (1, .ref h0), (2, .ref m0), (3, .int (nI i))]) (kk : ∀ (d' : List Int32) (rows' : List (List Int32)) (w' : va_W) (H' : Heap) (locs' : List Loc), lq_I cI h0 hd hc hs m0 ms mt ml md mk d' rows' w' → va_P D vwCl w' H' → va_D (lq_A s) w' → va_S (lq_A s) s.heap H' locs' → W p l e room_1 s m #[Value.ref b] below meth c H' locs' 10 73018 (lw_Z below #[Value.ref b] s) (F0 m 409 ls [])) : W p l e room_1 s m #[Value.ref b] below meth c H locs 10 73018 (lw_Z below #[Value.ref b] s) (F0 m 274 ls []) := by
  obtain ⟨hx, hb, hr, hml, hown, htsT, hX, hbl, hlocks, hgv⟩ := C0
  have hts : ∀ w ∈ wsL_law, w.before #[Value.ref b] s = true := fun w h => htsT w (wsL_law_in w h)
  have hown : s.vm.findClass RL = some m.cls := hown
  have hbA : ¬ lq_A s b := Nat.not_le.mpr hbl
  obtain ⟨dr, ch, st, n, rc, S, sg, ta, le, dr2, so, us, rc2, n2, sn, S2, rfl, hn, hR, hd1, hr1, hn2, hsn, hM, hd2, hr2, hpos⟩ := hI
  refine lv_aload_n hx hb dL_law_274 rfl (lv_at hl 1 rfl) ?_
  refine lv_aload_n hx hb dL_law_275 rfl (lv_at hl 0 rfl) ?_
  refine lv_iload_n hx hb dL_law_276 rfl (lv_at hl 3 rfl) ?_
  refine lv_iconst (v := nI 1) hx hb dL_law_277 (by decide) ?_
  refine rn_iadd hx hb dL_law_278 ?_
  refine rn_sld hx hb hX hbl hbA hS (by omega) (by omega) dL_law_279 ?_
  refine lv_aload_n hx hb dL_law_280 rfl (lv_at hl 0 rfl) ?_
  refine lv_iload_n hx hb dL_law_281 rfl (lv_at hl 3 rfl) ?_
  refine lv_iconst (v := nI 2) hx hb dL_law_282 (by decide) ?_
  refine rn_iadd hx hb dL_law_283 ?_
  refine rn_sld hx hb hX hbl hbA hS (by omega) (by omega) dL_law_284 ?_
  refine vp_callSi (W.runV (As := [.int (xs (i + 1)), .int (xs (i + 2))]) (rest := []) ⟨hx, hb, hml, hown, hts⟩ (kx_compare l D hty h0 hd hc hs (md_W cI m0 ms mt ml md mk [] sg ta le dr2 so us rc2 n2 sn) dr ch st n rc S hR (xs (i + 1)) (xs (i + 2))) (cwV 2 hts gL_law_X0_compare rfl rfl rfl (by decide +kernel) ⟨Nat.le_of_ble_eq_true rfl, Nat.le_of_ble_eq_true rfl⟩) (pu_preV hK hP 0 rfl rfl) rfl rfl hl.1 rfl (lv_room (Nat.le_of_ble_eq_true rfl)) dL_law_285 ⟨Nat.le_of_ble_eq_true rfl, Nat.le_of_ble_eq_true rfl⟩) (fun r1 er1 => ?_)
  refine lv_aload_n hx hb dL_law_288 rfl (lv_at hl 2 rfl) ?_
  refine lv_aload_n hx hb dL_law_289 rfl (lv_at hl 0 rfl) ?_
  refine lv_iload_n hx hb dL_law_290 rfl (lv_at hl 3 rfl) ?_
  refine lv_iconst (v := nI 1) hx hb dL_law_291 (by decide) ?_
  refine rn_iadd hx hb dL_law_292 ?_
  refine rn_sld hx hb hX hbl hbA hS (by omega) (by omega) dL_law_293 ?_
  refine lv_aload_n hx hb dL_law_294 rfl (lv_at hl 0 rfl) ?_
  refine lv_iload_n hx hb dL_law_295 rfl (lv_at hl 3 rfl) ?_
  refine lv_iconst (v := nI 2) hx hb dL_law_296 (by decide) ?_
  refine rn_iadd hx hb dL_law_297 ?_
  refine rn_sld hx hb hX hbl hbA hS (by omega) (by omega) dL_law_298 ?_
  have hPm : va_P D vwCl (md_W cI m0 ms mt ml md mk (cn_W cI h0 hd hc hs [] dr ch st n rc) sg ta le dr2 so us rc2 n2 sn) H := hP.sub [4, 5, 6, 7, 8, 9, 0, 1, 2, 3] rfl
  refine vp_callSi (W.runV (As := [.int (xs (i + 1)), .int (xs (i + 2))]) (rest := [.int r1]) ⟨hx, hb, hml, hown, hts⟩ (km_compare l D hty m0 ms mt ml md mk (cn_W cI h0 hd hc hs [] dr ch st n rc) sg ta le dr2 so us rc2 n2 sn S2 hM (ps_at hpos hr2) (xs (i + 1)) (xs (i + 2))) (cwV 2 hts gL_law_X1_compare rfl rfl rfl (by decide +kernel) ⟨Nat.le_of_ble_eq_true rfl, Nat.le_of_ble_eq_true rfl⟩) (pu_preV hK hPm 0 rfl rfl) rfl rfl hl.1 rfl (lv_room (Nat.le_of_ble_eq_true rfl)) dL_law_299 ⟨Nat.le_of_ble_eq_true rfl, Nat.le_of_ble_eq_true rfl⟩) (fun r2 er2 => ?_)
  have heq : r1 = r2 := by
    rw [er1, er2, ← hr1, ← hr2]
  refine lv_icmp_eq (tgt := 409) hx hb dL_law_302 (by decide) (fun _ => ?_) (fun z => absurd heq z)
  exact kk d rows _ H locs ⟨dr, ch, st, n, rc, S, sg, ta, le, dr2, so, us, rc2, n2, sn, S2, rfl, hn, hR, hd1, hr1, hn2, hsn, hM, hd2, hr2, hpos⟩ hP hD hS
set_option maxHeartbeats 4000000 in
set_option maxRecDepth 100000 in
theorem lc_colon {p : Program} {l : Launch} {e : Env} {s : State} {m : MethodId} {below : List Frame} {meth : Method} {c : Code} {b L : Nat} {xs : Nat → Int32} (hL : L ≤ 2048) (C0 : lw_At p s m meth c b L xs) {D : va_G} {tys : List (ClassId × FieldType)} {cI : ClassId} (hty : tys[0]? = some (cI, .int)) (hK : va_K D vwCl tys s) {h0 hd hc hs m0 ms mt ml md mk t : Nat} (hT0 : va_T .int t 32 (fun j => .int (sp_tb.getD j 0)) (lq_A s) s s.heap) (hZ0 : va_Z RX0 "NAME_STARTS" "[I" (.ref t) (lq_A s) s s.heap) {i : Nat} (hi : i + 4 ≤ L) {d : List Int32} {rows : List (List Int32)} {w : va_W} (hI : lq_I cI h0 hd hc hs m0 ms mt ml md mk d rows w) {H : Heap} {locs : List Loc} (hP : va_P D vwCl w H) (hD : va_D (lq_A s) w) (hS : va_S (lq_A s) s.heap H locs) {ls : Array Slot} (hl : lv_has ls 4 [(0, .ref b), (1, .ref h0), (2, .ref m0), (3, .int (nI i))]) (kk : ∀ (d' : List Int32) (rows' : List (List Int32)) (w' : va_W) (H' : Heap) (locs' : List Loc), lq_I cI h0 hd hc hs m0 ms mt ml md mk d' rows' w' → va_P D vwCl w' H' → va_D (lq_A s) w' → va_S (lq_A s) s.heap H' locs' → W p l e room_1 s m #[Value.ref b] below meth c H' locs' 10 73018 (lw_Z below #[Value.ref b] s) (F0 m 409 ls [])) : W p l e room_1 s m #[Value.ref b] below meth c H locs 10 73018 (lw_Z below #[Value.ref b] s) (F0 m 307 ls []) := by
  obtain ⟨hx, hb, hr, hml, hown, htsT, hX, hbl, hlocks, hgv⟩ := C0
  have hts : ∀ w ∈ wsL_law, w.before #[Value.ref b] s = true := fun w h => htsT w (wsL_law_in w h)
  have hown : s.vm.findClass RL = some m.cls := hown
  have hbA : ¬ lq_A s b := Nat.not_le.mpr hbl
  obtain ⟨dr, ch, st, n, rc, S, sg, ta, le, dr2, so, us, rc2, n2, sn, S2, rfl, hn, hR, hd1, hr1, hn2, hsn, hM, hd2, hr2, hpos⟩ := hI
  refine lv_aload_n hx hb dL_law_307 rfl (lv_at hl 1 rfl) ?_
  refine lv_aload_n hx hb dL_law_308 rfl (lv_at hl 0 rfl) ?_
  refine lv_iload_n hx hb dL_law_309 rfl (lv_at hl 3 rfl) ?_
  refine lv_iconst (v := nI 1) hx hb dL_law_310 (by decide) ?_
  refine rn_iadd hx hb dL_law_311 ?_
  refine rn_sld hx hb hX hbl hbA hS (by omega) (by omega) dL_law_312 ?_
  refine vp_callSi (W.runV (As := [.int (xs (i + 1))]) (rest := []) ⟨hx, hb, hml, hown, hts⟩ (kx_colon l D hty h0 hd hc hs (md_W cI m0 ms mt ml md mk [] sg ta le dr2 so us rc2 n2 sn) dr ch st n rc S hR t (xs (i + 1))) (cwV 1 hts gL_law_X0_colon rfl rfl rfl (by decide +kernel) ⟨Nat.le_of_ble_eq_true rfl, Nat.le_of_ble_eq_true rfl⟩) (pz_preV (cn_NS_E t) hK hP (lq_NS hT0 hZ0 hS) 0 rfl rfl) rfl rfl hl.1 rfl (lv_room (Nat.le_of_ble_eq_true rfl)) dL_law_313 ⟨Nat.le_of_ble_eq_true rfl, Nat.le_of_ble_eq_true rfl⟩) (fun r1 er1 => ?_)
  refine lv_aload_n hx hb dL_law_316 rfl (lv_at hl 2 rfl) ?_
  refine lv_aload_n hx hb dL_law_317 rfl (lv_at hl 0 rfl) ?_
  refine lv_iload_n hx hb dL_law_318 rfl (lv_at hl 3 rfl) ?_
  refine lv_iconst (v := nI 1) hx hb dL_law_319 (by decide) ?_
  refine rn_iadd hx hb dL_law_320 ?_
  refine rn_sld hx hb hX hbl hbA hS (by omega) (by omega) dL_law_321 ?_
  have hPm : va_P D vwCl (md_W cI m0 ms mt ml md mk (cn_W cI h0 hd hc hs [] dr ch st n rc) sg ta le dr2 so us rc2 n2 sn) H := hP.sub [4, 5, 6, 7, 8, 9, 0, 1, 2, 3] rfl
  refine vp_callSi (W.runV (As := [.int (xs (i + 1))]) (rest := [.int r1]) ⟨hx, hb, hml, hown, hts⟩ (km_colon l D hty m0 ms mt ml md mk (cn_W cI h0 hd hc hs [] dr ch st n rc) sg ta le dr2 so us rc2 n2 sn S2 hM (xs (i + 1))) (cwV 1 hts gL_law_X1_colon rfl rfl rfl (by decide +kernel) ⟨Nat.le_of_ble_eq_true rfl, Nat.le_of_ble_eq_true rfl⟩) (pu_preV hK hPm 0 rfl rfl) rfl rfl hl.1 rfl (lv_room (Nat.le_of_ble_eq_true rfl)) dL_law_322 ⟨Nat.le_of_ble_eq_true rfl, Nat.le_of_ble_eq_true rfl⟩) (fun r2 er2 => ?_)
  have heq : r1 = r2 := by
    rw [er1, er2, ← hr1, ← hr2]
  refine lv_icmp_eq (tgt := 409) hx hb dL_law_325 (by decide) (fun _ => ?_) (fun z => absurd heq z)
  exact kk d rows _ H locs ⟨dr, ch, st, n, rc, S, sg, ta, le, dr2, so, us, rc2, n2, sn, S2, rfl, hn, hR, hd1, hr1, hn2, hsn, hM, hd2, hr2, hpos⟩ hP hD hS
set_option maxHeartbeats 4000000 in
set_option maxRecDepth 100000 in
theorem lc_part {p : Program} {l : Launch} {e : Env} {s : State} {m : MethodId} {below : List Frame} {meth : Method} {c : Code} {b L : Nat} {xs : Nat → Int32} (hL : L ≤ 2048) (C0 : lw_At p s m meth c b L xs) {D : va_G} {tys : List (ClassId × FieldType)} {cI : ClassId} (hty : tys[0]? = some (cI, .int)) (hK : va_K D vwCl tys s) {h0 hd hc hs m0 ms mt ml md mk t : Nat} (hT0 : va_T .int t 32 (fun j => .int (sp_tb.getD j 0)) (lq_A s) s s.heap) (hZ0 : va_Z RX0 "NAME_STARTS" "[I" (.ref t) (lq_A s) s s.heap) {i : Nat} (hi : i + 4 ≤ L) {d : List Int32} {rows : List (List Int32)} {w : va_W} (hI : lq_I cI h0 hd hc hs m0 ms mt ml md mk d rows w) {H : Heap} {locs : List Loc} (hP : va_P D vwCl w H) (hD : va_D (lq_A s) w) (hS : va_S (lq_A s) s.heap H locs) {ls : Array Slot} (hl : lv_has ls 4 [(0, .ref b), (1, .ref h0), (2, .ref m0), (3, .int (nI i))]) (kk : ∀ (d' : List Int32) (rows' : List (List Int32)) (w' : va_W) (H' : Heap) (locs' : List Loc), lq_I cI h0 hd hc hs m0 ms mt ml md mk d' rows' w' → va_P D vwCl w' H' → va_D (lq_A s) w' → va_S (lq_A s) s.heap H' locs' → W p l e room_1 s m #[Value.ref b] below meth c H' locs' 10 73018 (lw_Z below #[Value.ref b] s) (F0 m 409 ls [])) : W p l e room_1 s m #[Value.ref b] below meth c H locs 10 73018 (lw_Z below #[Value.ref b] s) (F0 m 330 ls []) := by
  obtain ⟨hx, hb, hr, hml, hown, htsT, hX, hbl, hlocks, hgv⟩ := C0
  have hts : ∀ w ∈ wsL_law, w.before #[Value.ref b] s = true := fun w h => htsT w (wsL_law_in w h)
  have hown : s.vm.findClass RL = some m.cls := hown
  have hbA : ¬ lq_A s b := Nat.not_le.mpr hbl
  obtain ⟨dr, ch, st, n, rc, S, sg, ta, le, dr2, so, us, rc2, n2, sn, S2, rfl, hn, hR, hd1, hr1, hn2, hsn, hM, hd2, hr2, hpos⟩ := hI
  refine lv_aload_n hx hb dL_law_330 rfl (lv_at hl 1 rfl) ?_
  refine lv_aload_n hx hb dL_law_331 rfl (lv_at hl 0 rfl) ?_
  refine lv_iload_n hx hb dL_law_332 rfl (lv_at hl 3 rfl) ?_
  refine lv_iconst (v := nI 1) hx hb dL_law_333 (by decide) ?_
  refine rn_iadd hx hb dL_law_334 ?_
  refine rn_sld hx hb hX hbl hbA hS (by omega) (by omega) dL_law_335 ?_
  refine lv_aload_n hx hb dL_law_336 rfl (lv_at hl 0 rfl) ?_
  refine lv_iload_n hx hb dL_law_337 rfl (lv_at hl 3 rfl) ?_
  refine lv_iconst (v := nI 2) hx hb dL_law_338 (by decide) ?_
  refine rn_iadd hx hb dL_law_339 ?_
  refine rn_sld hx hb hX hbl hbA hS (by omega) (by omega) dL_law_340 ?_
  refine lv_aload_n hx hb dL_law_341 rfl (lv_at hl 0 rfl) ?_
  refine lv_iload_n hx hb dL_law_342 rfl (lv_at hl 3 rfl) ?_
  refine lv_iconst (v := nI 3) hx hb dL_law_343 (by decide) ?_
  refine rn_iadd hx hb dL_law_344 ?_
  refine rn_sld hx hb hX hbl hbA hS (by omega) (by omega) dL_law_345 ?_
  refine mu_calli (va_runV (As := [.int (xs (i + 1)), .int (xs (i + 2)), .int (xs (i + 3))]) (rest := []) ⟨hx, hb, hml, hown, hts⟩ (kx_part l D hty h0 hd hc hs (md_W cI m0 ms mt ml md mk [] sg ta le dr2 so us rc2 n2 sn) dr ch st n rc (lq_A s) S hR hn (xs (i + 1)) (xs (i + 2)) (xs (i + 3))) (cwV 3 hts gL_law_X0_part rfl rfl rfl (by decide +kernel) ⟨Nat.le_of_ble_eq_true rfl, Nat.le_of_ble_eq_true rfl⟩) (mu_preV hK hP hD 0 rfl rfl) rfl rfl hl.1 rfl (lv_room (Nat.le_of_ble_eq_true rfl)) dL_law_346 ⟨Nat.le_of_ble_eq_true rfl, Nat.le_of_ble_eq_true rfl⟩) hS (fun r1 w1 H locs er1 hP hD hS => ?_)
  obtain ⟨⟨dr', ch', st', n', rc', S', rfl, hn', hR', hd1', hr1'⟩, er1⟩ := er1
  refine lv_aload_n hx hb dL_law_349 rfl (lv_at hl 2 rfl) ?_
  refine lv_aload_n hx hb dL_law_350 rfl (lv_at hl 0 rfl) ?_
  refine lv_iload_n hx hb dL_law_351 rfl (lv_at hl 3 rfl) ?_
  refine lv_iconst (v := nI 1) hx hb dL_law_352 (by decide) ?_
  refine rn_iadd hx hb dL_law_353 ?_
  refine rn_sld hx hb hX hbl hbA hS (by omega) (by omega) dL_law_354 ?_
  refine lv_aload_n hx hb dL_law_355 rfl (lv_at hl 0 rfl) ?_
  refine lv_iload_n hx hb dL_law_356 rfl (lv_at hl 3 rfl) ?_
  refine lv_iconst (v := nI 2) hx hb dL_law_357 (by decide) ?_
  refine rn_iadd hx hb dL_law_358 ?_
  refine rn_sld hx hb hX hbl hbA hS (by omega) (by omega) dL_law_359 ?_
  refine lv_aload_n hx hb dL_law_360 rfl (lv_at hl 0 rfl) ?_
  refine lv_iload_n hx hb dL_law_361 rfl (lv_at hl 3 rfl) ?_
  refine lv_iconst (v := nI 3) hx hb dL_law_362 (by decide) ?_
  refine rn_iadd hx hb dL_law_363 ?_
  refine rn_sld hx hb hX hbl hbA hS (by omega) (by omega) dL_law_364 ?_
  have hPm : va_P D vwCl (md_W cI m0 ms mt ml md mk (cn_W cI h0 hd hc hs [] dr' ch' st' n' rc') sg ta le dr2 so us rc2 n2 sn) H := hP.sub [4, 5, 6, 7, 8, 9, 0, 1, 2, 3] rfl
  have hDm : va_D (lq_A s) (md_W cI m0 ms mt ml md mk (cn_W cI h0 hd hc hs [] dr' ch' st' n' rc') sg ta le dr2 so us rc2 n2 sn) := hD.sub [4, 5, 6, 7, 8, 9, 0, 1, 2, 3] (by decide) rfl
  refine mu_calli (va_runV (As := [.int (xs (i + 1)), .int (xs (i + 2)), .int (xs (i + 3))]) (rest := [.int r1]) ⟨hx, hb, hml, hown, htsT⟩ (km_part l D hty m0 ms mt ml md mk (cn_W cI h0 hd hc hs [] dr' ch' st' n' rc') sg ta le dr2 so us rc2 n2 sn (lq_A s) S2 hM hn2 hsn (xs (i + 1)) (xs (i + 2)) (xs (i + 3))) (cwV 3 htsT gL_law_X1_part rfl rfl rfl (by decide +kernel) ⟨Nat.le_of_ble_eq_true rfl, Nat.le_of_ble_eq_true rfl⟩) (mu_preV hK hPm hDm 0 rfl rfl) rfl rfl hl.1 rfl (lv_room (Nat.le_of_ble_eq_true rfl)) dL_law_365 ⟨Nat.le_of_ble_eq_true rfl, Nat.le_of_ble_eq_true rfl⟩) hS (fun r2 w2 H locs er2 hP hD hS => ?_)
  obtain ⟨⟨sg', ta', le', dr2', so', us', rc2', n2', sn', S2', rfl, hn2', hsn', hM', hd2', hr2'⟩, er2⟩ := er2
  have hP : va_P D vwCl (cn_W cI h0 hd hc hs (md_W cI m0 ms mt ml md mk [] sg' ta' le' dr2' so' us' rc2' n2' sn') dr' ch' st' n' rc') H := hP.sub [6, 7, 8, 9, 0, 1, 2, 3, 4, 5] rfl
  have hD : va_D (lq_A s) (cn_W cI h0 hd hc hs (md_W cI m0 ms mt ml md mk [] sg' ta' le' dr2' so' us' rc2' n2' sn') dr' ch' st' n' rc') := hD.sub [6, 7, 8, 9, 0, 1, 2, 3, 4, 5] (by decide) rfl
  have heq : r1 = r2 := by
    rw [er1, er2, ← hr1, ← hr2]
  refine lv_icmp_eq (tgt := 409) hx hb dL_law_368 (by decide) (fun _ => ?_) (fun z => absurd heq z)
  exact kk d (sp_part rows (xs (i + 1)) (xs (i + 2)) (xs (i + 3))).1 _ H locs ⟨dr', ch', st', n', rc', S', sg', ta', le', dr2', so', us', rc2', n2', sn', S2', rfl, hn', hR', (hd1.trans hd1'), (by first | (rw [hr1, hd1]; exact hr1') | (rw [hr1]; exact hr1') | (rw [hd1]; exact hr1') | exact hr1'), hn2', hsn', hM', (hd2.trans hd2'), (by first | (rw [hr2, hd2]; exact hr2') | (rw [hr2]; exact hr2') | (rw [hd2]; exact hr2') | exact hr2'), (ps_part hpos)⟩ hP hD hS
set_option maxHeartbeats 4000000 in
set_option maxRecDepth 100000 in
theorem lc_next {p : Program} {l : Launch} {e : Env} {s : State} {m : MethodId} {below : List Frame} {meth : Method} {c : Code} {b L : Nat} {xs : Nat → Int32} (hL : L ≤ 2048) (C0 : lw_At p s m meth c b L xs) {D : va_G} {tys : List (ClassId × FieldType)} {cI : ClassId} (hty : tys[0]? = some (cI, .int)) (hK : va_K D vwCl tys s) {h0 hd hc hs m0 ms mt ml md mk t : Nat} (hT0 : va_T .int t 32 (fun j => .int (sp_tb.getD j 0)) (lq_A s) s s.heap) (hZ0 : va_Z RX0 "NAME_STARTS" "[I" (.ref t) (lq_A s) s s.heap) {i : Nat} (hi : i + 4 ≤ L) {d : List Int32} {rows : List (List Int32)} {w : va_W} (hI : lq_I cI h0 hd hc hs m0 ms mt ml md mk d rows w) {H : Heap} {locs : List Loc} (hP : va_P D vwCl w H) (hD : va_D (lq_A s) w) (hS : va_S (lq_A s) s.heap H locs) {ls : Array Slot} (hl : lv_has ls 4 [(0, .ref b), (1, .ref h0), (2, .ref m0), (3, .int (nI i))]) (kk : ∀ (d' : List Int32) (rows' : List (List Int32)) (w' : va_W) (H' : Heap) (locs' : List Loc), lq_I cI h0 hd hc hs m0 ms mt ml md mk d' rows' w' → va_P D vwCl w' H' → va_D (lq_A s) w' → va_S (lq_A s) s.heap H' locs' → W p l e room_1 s m #[Value.ref b] below meth c H' locs' 10 73018 (lw_Z below #[Value.ref b] s) (F0 m 409 ls [])) : W p l e room_1 s m #[Value.ref b] below meth c H locs 10 73018 (lw_Z below #[Value.ref b] s) (F0 m 373 ls []) := by
  obtain ⟨hx, hb, hr, hml, hown, htsT, hX, hbl, hlocks, hgv⟩ := C0
  have hts : ∀ w ∈ wsL_law, w.before #[Value.ref b] s = true := fun w h => htsT w (wsL_law_in w h)
  have hown : s.vm.findClass RL = some m.cls := hown
  have hbA : ¬ lq_A s b := Nat.not_le.mpr hbl
  obtain ⟨dr, ch, st, n, rc, S, sg, ta, le, dr2, so, us, rc2, n2, sn, S2, rfl, hn, hR, hd1, hr1, hn2, hsn, hM, hd2, hr2, hpos⟩ := hI
  refine lv_aload_n hx hb dL_law_373 rfl (lv_at hl 1 rfl) ?_
  refine lv_aload_n hx hb dL_law_374 rfl (lv_at hl 0 rfl) ?_
  refine lv_iload_n hx hb dL_law_375 rfl (lv_at hl 3 rfl) ?_
  refine lv_iconst (v := nI 1) hx hb dL_law_376 (by decide) ?_
  refine rn_iadd hx hb dL_law_377 ?_
  refine rn_sld hx hb hX hbl hbA hS (by omega) (by omega) dL_law_378 ?_
  refine vp_callSi (W.runV (As := [.int (xs (i + 1))]) (rest := []) ⟨hx, hb, hml, hown, hts⟩ (kx_next l D hty h0 hd hc hs (md_W cI m0 ms mt ml md mk [] sg ta le dr2 so us rc2 n2 sn) dr ch st n rc S hR (xs (i + 1))) (cwV 1 hts gL_law_X0_next rfl rfl rfl (by decide +kernel) ⟨Nat.le_of_ble_eq_true rfl, Nat.le_of_ble_eq_true rfl⟩) (pu_preV hK hP 0 rfl rfl) rfl rfl hl.1 rfl (lv_room (Nat.le_of_ble_eq_true rfl)) dL_law_379 ⟨Nat.le_of_ble_eq_true rfl, Nat.le_of_ble_eq_true rfl⟩) (fun r1 er1 => ?_)
  refine lv_aload_n hx hb dL_law_382 rfl (lv_at hl 2 rfl) ?_
  refine lv_aload_n hx hb dL_law_383 rfl (lv_at hl 0 rfl) ?_
  refine lv_iload_n hx hb dL_law_384 rfl (lv_at hl 3 rfl) ?_
  refine lv_iconst (v := nI 1) hx hb dL_law_385 (by decide) ?_
  refine rn_iadd hx hb dL_law_386 ?_
  refine rn_sld hx hb hX hbl hbA hS (by omega) (by omega) dL_law_387 ?_
  have hPm : va_P D vwCl (md_W cI m0 ms mt ml md mk (cn_W cI h0 hd hc hs [] dr ch st n rc) sg ta le dr2 so us rc2 n2 sn) H := hP.sub [4, 5, 6, 7, 8, 9, 0, 1, 2, 3] rfl
  refine vp_callSi (W.runV (As := [.int (xs (i + 1))]) (rest := [.int r1]) ⟨hx, hb, hml, hown, htsT⟩ (km_next l D hty m0 ms mt ml md mk (cn_W cI h0 hd hc hs [] dr ch st n rc) sg ta le dr2 so us rc2 n2 sn S2 hM (ps_at hpos hr2) (xs (i + 1))) (cwV 1 htsT gL_law_X1_next rfl rfl rfl (by decide +kernel) ⟨Nat.le_of_ble_eq_true rfl, Nat.le_of_ble_eq_true rfl⟩) (pu_preV hK hPm 0 rfl rfl) rfl rfl hl.1 rfl (lv_room (Nat.le_of_ble_eq_true rfl)) dL_law_388 ⟨Nat.le_of_ble_eq_true rfl, Nat.le_of_ble_eq_true rfl⟩) (fun r2 er2 => ?_)
  have heq : r1 = r2 := by
    rw [er1, er2, ← hr1, ← hr2]
  refine lv_icmp_eq (tgt := 409) hx hb dL_law_391 (by decide) (fun _ => ?_) (fun z => absurd heq z)
  exact kk d rows _ H locs ⟨dr, ch, st, n, rc, S, sg, ta, le, dr2, so, us, rc2, n2, sn, S2, rfl, hn, hR, hd1, hr1, hn2, hsn, hM, hd2, hr2, hpos⟩ hP hD hS
set_option maxHeartbeats 4000000 in
set_option maxRecDepth 100000 in
theorem lc_clear {p : Program} {l : Launch} {e : Env} {s : State} {m : MethodId} {below : List Frame} {meth : Method} {c : Code} {b L : Nat} {xs : Nat → Int32} (hL : L ≤ 2048) (C0 : lw_At p s m meth c b L xs) {D : va_G} {tys : List (ClassId × FieldType)} {cI : ClassId} (hty : tys[0]? = some (cI, .int)) (hK : va_K D vwCl tys s) {h0 hd hc hs m0 ms mt ml md mk t : Nat} (hT0 : va_T .int t 32 (fun j => .int (sp_tb.getD j 0)) (lq_A s) s s.heap) (hZ0 : va_Z RX0 "NAME_STARTS" "[I" (.ref t) (lq_A s) s s.heap) {i : Nat} (hi : i + 4 ≤ L) {d : List Int32} {rows : List (List Int32)} {w : va_W} (hI : lq_I cI h0 hd hc hs m0 ms mt ml md mk d rows w) {H : Heap} {locs : List Loc} (hP : va_P D vwCl w H) (hD : va_D (lq_A s) w) (hS : va_S (lq_A s) s.heap H locs) {ls : Array Slot} (hl : lv_has ls 4 [(0, .ref b), (1, .ref h0), (2, .ref m0), (3, .int (nI i))]) (kk : ∀ (d' : List Int32) (rows' : List (List Int32)) (w' : va_W) (H' : Heap) (locs' : List Loc), lq_I cI h0 hd hc hs m0 ms mt ml md mk d' rows' w' → va_P D vwCl w' H' → va_D (lq_A s) w' → va_S (lq_A s) s.heap H' locs' → W p l e room_1 s m #[Value.ref b] below meth c H' locs' 10 73018 (lw_Z below #[Value.ref b] s) (F0 m 409 ls [])) : W p l e room_1 s m #[Value.ref b] below meth c H locs 10 73018 (lw_Z below #[Value.ref b] s) (F0 m 396 ls []) := by
  obtain ⟨hx, hb, hr, hml, hown, htsT, hX, hbl, hlocks, hgv⟩ := C0
  have hts : ∀ w ∈ wsL_law, w.before #[Value.ref b] s = true := fun w h => htsT w (wsL_law_in w h)
  have hown : s.vm.findClass RL = some m.cls := hown
  have hbA : ¬ lq_A s b := Nat.not_le.mpr hbl
  obtain ⟨dr, ch, st, n, rc, S, sg, ta, le, dr2, so, us, rc2, n2, sn, S2, rfl, hn, hR, hd1, hr1, hn2, hsn, hM, hd2, hr2, hpos⟩ := hI
  refine lv_aload_n hx hb dL_law_396 rfl (lv_at hl 1 rfl) ?_
  refine mu_calli (va_runV (As := []) (rest := []) ⟨hx, hb, hml, hown, hts⟩ (kx_clear l D hty h0 hd hc hs (md_W cI m0 ms mt ml md mk [] sg ta le dr2 so us rc2 n2 sn) dr ch st n rc (lq_A s) S hR hn ) (cwV 0 hts gL_law_X0_clear rfl rfl rfl (by decide +kernel) ⟨Nat.le_of_ble_eq_true rfl, Nat.le_of_ble_eq_true rfl⟩) (mu_preV hK hP hD 0 rfl rfl) rfl rfl hl.1 rfl (lv_room (Nat.le_of_ble_eq_true rfl)) dL_law_397 ⟨Nat.le_of_ble_eq_true rfl, Nat.le_of_ble_eq_true rfl⟩) hS (fun r1 w1 H locs er1 hP hD hS => ?_)
  obtain ⟨⟨dr', ch', st', n', rc', S', rfl, hn', hR', hd1', hr1'⟩, er1⟩ := er1
  refine lv_aload_n hx hb dL_law_400 rfl (lv_at hl 2 rfl) ?_
  have hPm : va_P D vwCl (md_W cI m0 ms mt ml md mk (cn_W cI h0 hd hc hs [] dr' ch' st' n' rc') sg ta le dr2 so us rc2 n2 sn) H := hP.sub [4, 5, 6, 7, 8, 9, 0, 1, 2, 3] rfl
  have hDm : va_D (lq_A s) (md_W cI m0 ms mt ml md mk (cn_W cI h0 hd hc hs [] dr' ch' st' n' rc') sg ta le dr2 so us rc2 n2 sn) := hD.sub [4, 5, 6, 7, 8, 9, 0, 1, 2, 3] (by decide) rfl
  refine mu_calli (va_runV (As := []) (rest := [.int r1]) ⟨hx, hb, hml, hown, htsT⟩ (km_clear l D hty m0 ms mt ml md mk (cn_W cI h0 hd hc hs [] dr' ch' st' n' rc') sg ta le dr2 so us rc2 n2 sn (lq_A s) S2 hM hn2 hsn ) (cwV 0 htsT gL_law_X1_clear rfl rfl rfl (by decide +kernel) ⟨Nat.le_of_ble_eq_true rfl, Nat.le_of_ble_eq_true rfl⟩) (mu_preV hK hPm hDm 0 rfl rfl) rfl rfl hl.1 rfl (lv_room (Nat.le_of_ble_eq_true rfl)) dL_law_401 ⟨Nat.le_of_ble_eq_true rfl, Nat.le_of_ble_eq_true rfl⟩) hS (fun r2 w2 H locs er2 hP hD hS => ?_)
  obtain ⟨⟨sg', ta', le', dr2', so', us', rc2', n2', sn', S2', rfl, hn2', hsn', hM', hd2', hr2'⟩, er2⟩ := er2
  have hP : va_P D vwCl (cn_W cI h0 hd hc hs (md_W cI m0 ms mt ml md mk [] sg' ta' le' dr2' so' us' rc2' n2' sn') dr' ch' st' n' rc') H := hP.sub [6, 7, 8, 9, 0, 1, 2, 3, 4, 5] rfl
  have hD : va_D (lq_A s) (cn_W cI h0 hd hc hs (md_W cI m0 ms mt ml md mk [] sg' ta' le' dr2' so' us' rc2' n2' sn') dr' ch' st' n' rc') := hD.sub [6, 7, 8, 9, 0, 1, 2, 3, 4, 5] (by decide) rfl
  have heq : r1 = r2 := by
    rw [er1, er2, ← hr1, ← hr2]
  refine lv_icmp_eq (tgt := 409) hx hb dL_law_404 (by decide) (fun _ => ?_) (fun z => absurd heq z)
  exact kk d [] _ H locs ⟨dr', ch', st', n', rc', S', sg', ta', le', dr2', so', us', rc2', n2', sn', S2', rfl, hn', hR', (hd1.trans hd1'), (by first | (rw [hr1, hd1]; exact hr1') | (rw [hr1]; exact hr1') | (rw [hd1]; exact hr1') | exact hr1'), hn2', hsn', hM', (hd2.trans hd2'), (by first | (rw [hr2, hd2]; exact hr2') | (rw [hr2]; exact hr2') | (rw [hd2]; exact hr2') | exact hr2'), (ps_clear hpos)⟩ hP hD hS
