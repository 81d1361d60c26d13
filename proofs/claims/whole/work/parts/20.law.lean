/-! THE CLAIM OUT OF ONE WALK OF THE LAW'S BODY. Your part is whole_start (and what it stands on); all else here is the same for every law, but numbers. -/
def R_law : String := "NameNumbersLaw"
def lw_P (b : Addr) (xs : List Int32) (args : Array Value) (s : State) : Prop := args = #[.ref b] ∧ s.IntsAt b xs ∧ xs.length ≤ 2048 ∧ (Jvm.Cond.and given_1 narrow_1).before args s = true
def lw_Q (_ : Array Value) (s : State) (o : Outcome) (t : State) : Prop := o = .returned (some (.int 1)) ∧ Framed s o t [] 10 73018
def lw_Z (below : List Frame) (a : Array Value) (s : State) : State → Prop := fun t => ∃ o, t.status = .running ∧ Ended t below o ∧ lw_Q a s o t
/-- the law's own end, with 1 on the stack, nothing written that was there before, its room as the claim has it -/
theorem lw_ret {p : Program} {l : Launch} {e : Env} {s : State} {m : MethodId} {below : List Frame} {meth : Method} {c : Code} {b : Nat} (hx : p.tables.exec = Jvm.exec) (hb : c.code = code) (hr : meth.sig.returnType = ret) (hlocks : meth.locks = false) {pc : Nat} {H : Heap} {ls : Array Slot} (hdg : decode code pc = .ok (.ireturn, 1)) : W p l e room_1 s m #[Value.ref b] below meth c H [] 10 73018 (lw_Z below #[Value.ref b] s) (F0 m pc ls [.int 1]) := by
  intro T hT X
  obtain ⟨fs, hret, hrun, hended, hW, hframe⟩ := X.leave (v := some (.int 1)) (hlocks := hlocks) (fun h => by rw [hr] at h; cases h)
  have hmeth' : T.vm.method? m = some meth := X.method'
  refine ⟨T.setFrames fs, ?_, .returned (some (.int 1)), hrun, hended, rfl, ⟨_, rfl⟩, hW, hframe⟩
  jvm_step X.here [X.here.top, hx, hb, hdg, hmeth', hr, ret, narrow_b1]
  (try refine ⟨rfl, ?_⟩); (try refine ⟨rfl, ?_⟩)
  first | (intro acts; rw [hret _ acts rfl rfl rfl]) | rw [hret _ _ rfl rfl rfl]
  exact Steps.refl _
/-- what holds at the law's entry: the machine, the code, the tables' words (any of lw_tbl by 'hts w (by decide +kernel)'), the script of L ints xs at the cell b, what the Statement gives of the start (any of its parts by flat_of_before) -/
def lw_At (p : Program) (s : State) (m : MethodId) (meth : Method) (c : Code) (b L : Nat) (xs : Nat → Int32) : Prop :=
  p.tables.exec = Jvm.exec ∧ c.code = code ∧ meth.sig.returnType = ret ∧ c.maxLocals = 4 ∧ s.vm.findClass R_law = some m.cls ∧ (∀ w ∈ lw_tbl, w.before #[Value.ref b] s = true) ∧ va_X b L xs s s.heap ∧ b < s.heap.size ∧ meth.locks = false ∧ (Jvm.Cond.and given_1 narrow_1).before #[Value.ref b] s = true

/-- no character is below 0 -/
def sp_pos (d : List Int32) (rows : List (List Int32)) : Prop := (∀ x ∈ d, ¬ x < 0) ∧ ∀ r ∈ rows, ∀ x ∈ r, ¬ x < 0
theorem sp_mem {f : Nat → Int32} {a n : Nat} {x : Int32} (h : x ∈ sp_sl f a n) : ∃ j, j < n ∧ x = f (a + j) := by
  unfold sp_sl at h
  obtain ⟨j, hj, e⟩ := List.mem_map.mp h
  exact ⟨j, List.mem_range.mp hj, e.symm⟩
theorem sp_row_mem {rows : List (List Int32)} {k : Int32} {r : List Int32} (h : sp_row rows k = some r) : r ∈ rows := by
  unfold sp_row at h
  by_cases q : k < 1
  · rw [if_pos q] at h; cases h
  · rw [if_neg q] at h; exact List.mem_of_getElem? h
theorem ps_write {d : List Int32} {rows : List (List Int32)} {c many : Int32} (h : sp_pos d rows) : sp_pos (sp_write d c many).1 rows := by
  refine ⟨?_, h.2⟩
  unfold sp_write
  by_cases q : many < 0 ∨ nI 500 < many ∨ c < 0 ∨ nI (1114111 - many.toNatClampNeg) < c ∨ 2000 < d.length + many.toNatClampNeg + 1
  · rw [if_pos q]; exact h.1
  · rw [if_neg q]
    intro x hx
    rcases List.mem_append.mp hx with hx | hx
    · exact h.1 x hx
    · obtain ⟨j, hj, e⟩ := sp_mem hx
      have q1 : ¬ many < 0 := fun z => q (Or.inl z)
      have q2 : ¬ nI 500 < many := fun z => q (Or.inr (Or.inl z))
      have q3 : ¬ c < 0 := fun z => q (Or.inr (Or.inr (Or.inl z)))
      have q4 : ¬ nI (1114111 - many.toNatClampNeg) < c := fun z => q (Or.inr (Or.inr (Or.inr (Or.inl z))))
      obtain ⟨y, hy, rfl⟩ := nI_of q1
      obtain ⟨z, hz, rfl⟩ := nI_of q3
      rw [nI_clamp hy] at q4 hj
      rw [nI_clamp hz] at e
      have hz2 : z ≤ 1114111 - y := by
        rcases Nat.lt_or_ge (1114111 - y) z with w | w
        · exact absurd (nI_lt w hz) q4
        · exact w
      have hy2 : y ≤ 500 := by
        rcases Nat.lt_or_ge 500 y with w | w
        · exact absurd (nI_lt w hy) q2
        · exact w
      rw [e]
      exact nI_pos (by omega)
theorem ps_cut {d : List Int32} {rows : List (List Int32)} {k : Int32} (h : sp_pos d rows) : sp_pos (sp_cut d k).1 rows := by
  refine ⟨?_, h.2⟩
  unfold sp_cut
  by_cases q : k < 0 ∨ nI d.length < k
  · rw [if_pos q]; exact h.1
  · rw [if_neg q]; exact fun x hx => h.1 x (List.mem_of_mem_take hx)
theorem ps_rows {d e : List Int32} {rows : List (List Int32)} (h : sp_pos d rows) (he : ∀ x ∈ e, ¬ x < 0) : ∀ r ∈ (sp_numberOf rows e).1, ∀ x ∈ r, ¬ x < 0 := by
  unfold sp_numberOf
  cases hf : sp_fd e rows 1 with
  | some k => exact h.2
  | none =>
    show ∀ r ∈ (if rows.length < 3000 ∧ e.length + sp_sum rows ≤ 20000 then (rows ++ [e], nI (rows.length + 1)) else (rows, -1) : List (List Int32) × Int32).1, ∀ x ∈ r, ¬ x < 0
    by_cases q : rows.length < 3000 ∧ e.length + sp_sum rows ≤ 20000
    · rw [if_pos q]
      intro r hr
      rcases List.mem_append.mp hr with hr | hr
      · exact h.2 r hr
      · rw [List.mem_singleton.mp hr]; exact he
    · rw [if_neg q]; exact h.2
theorem ps_number {d : List Int32} {rows : List (List Int32)} (h : sp_pos d rows) : sp_pos (if (sp_numberOf rows d).2 = -1 then d else []) (sp_numberOf rows d).1 := by
  refine ⟨?_, ps_rows h h.1⟩
  by_cases q : (sp_numberOf rows d).2 = -1
  · rw [if_pos q]; exact h.1
  · rw [if_neg q]; intro x hx; cases hx
theorem ps_take {d : List Int32} {rows : List (List Int32)} {k : Int32} (h : sp_pos d rows) : sp_pos (sp_take_ rows d k).1 rows := by
  refine ⟨?_, h.2⟩
  cases hw : sp_row rows k with
  | none => unfold sp_take_; rw [hw]; exact h.1
  | some r =>
    rw [cn_tk_some hw]
    by_cases q : 2000 < d.length + r.length
    · rw [if_pos q]; exact h.1
    · rw [if_neg q]
      intro x hx
      rcases List.mem_append.mp hx with hx | hx
      · exact h.1 x hx
      · exact h.2 r (sp_row_mem hw) x hx
theorem ps_part {d : List Int32} {rows : List (List Int32)} {k i n : Int32} (h : sp_pos d rows) : sp_pos d (sp_part rows k i n).1 := by
  refine ⟨h.1, ?_⟩
  cases hw : sp_row rows k with
  | none => unfold sp_part; rw [hw]; exact h.2
  | some r =>
    rw [cn_pt_some hw]
    by_cases q : i < 0 ∨ nI r.length < i ∨ n < 0 ∨ nI (r.length - i.toNatClampNeg) < n
    · rw [if_pos q]; exact h.2
    · rw [if_neg q]
      exact ps_rows h (fun x hx => h.2 r (sp_row_mem hw) x (List.mem_of_mem_drop (List.mem_of_mem_take hx)))
theorem ps_clear {d : List Int32} {rows : List (List Int32)} (h : sp_pos d rows) : sp_pos d [] := ⟨h.1, fun r hr => by cases hr⟩
theorem ps_at {sg : Nat → Int32} {S : Nat → Nat} {d : List Int32} {rc : Nat} {rows : List (List Int32)} (h : sp_pos d rows) (hr : rows = cn_rows sg S 1 rc) : ∀ k, 1 ≤ k → k ≤ rc → ∀ z, z < S (k + 1) - S k → ¬ sg (S k + z) < 0 := by
  intro k h1 h2 z hz
  subst hr
  refine h.2 (cn_row sg S k) (List.mem_of_getElem? (i := k - 1) ?_) _ (List.mem_of_getElem? (i := z) (sp_get hz))
  rw [cn_rows_get (by omega)]
  congr 2
  omega
/-- the law's cells: the class's and the reference's, holding one draft and the same rows -/
def lq_I (cI : ClassId) (h0 hd hc hs m0 ms mt ml md mk : Nat) (d : List Int32) (rows : List (List Int32)) (w : va_W) : Prop := ∃ (dr ch st : Nat → Int32) (n rc : Nat) (S : Nat → Nat) (sg ta le dr2 so : Nat → Int32) (us rc2 n2 sn : Nat) (S2 : Nat → Nat), w = cn_W cI h0 hd hc hs (md_W cI m0 ms mt ml md mk [] sg ta le dr2 so us rc2 n2 sn) dr ch st n rc ∧ n ≤ 2000 ∧ cn_S st rc S ∧ d = sp_sl dr 0 n ∧ rows = cn_rows ch S 1 rc ∧ n2 ≤ 2000 ∧ sn ≤ 20000 ∧ md_S ta le us rc2 S2 ∧ d = sp_sl dr2 0 n2 ∧ rows = cn_rows sg S2 1 rc2 ∧ sp_pos d rows
abbrev lq_A (s : State) : Nat → Prop := fun q => s.heap.size ≤ q
theorem lq_0 (cI : ClassId) (h0 hd hc hs m0 ms mt ml md mk : Nat) : lq_I cI h0 hd hc hs m0 ms mt ml md mk [] [] (cn_W cI h0 hd hc hs (md_W cI m0 ms mt ml md mk [] (fun _ => 0) (fun _ => 0) (fun _ => 0) (fun _ => 0) (fun _ => 0) 0 0 0 0) (fun _ => 0) (fun _ => 0) (fun _ => 0) 0 0) := by
  have hp : sp_pos [] [] := ⟨fun x hx => absurd hx List.not_mem_nil, fun r hr => absurd hr List.not_mem_nil⟩
  exact ⟨_, _, _, _, _, fun _ => 0, _, _, _, _, _, _, _, _, _, fun _ => 0, rfl, Nat.zero_le _, ⟨rfl, fun _ _ _ => nI_0.symm, fun _ _ _ => Nat.le_refl _, Nat.zero_le _, Nat.zero_le _⟩, rfl, rfl, Nat.zero_le _, Nat.zero_le _, ⟨rfl, fun k h1 h2 => absurd h1 (by omega), fun _ _ _ => Nat.le_refl _, rfl, Nat.zero_le _, Nat.zero_le _⟩, rfl, rfl, hp⟩
theorem lq_more {L i : Nat} (hL : L ≤ 2048) (hi : i ≤ L) (h : ¬ Int32.ofNat L - nI 4 < nI i) : i + 4 ≤ L := by
  have h : ¬ nI L - nI 4 < nI i := h
  rw [Int32.lt_iff_toInt_lt, pk_sub_toInt (by omega) (by omega), nI_toInt (by omega)] at h
  omega
section LS
variable {p : Program} {l : Launch} {e : Env} {R : Room} {s : State} {m : MethodId} {args : Array Value} {below : List Frame} {meth : Method} {c : Code} {H : Heap} {locs : List Loc} {cells slots : Nat} {Q : State → Prop}
variable {cc : ByteArray} {pc : Nat} {ls : Array Slot} {rest : List Value} {A : Nat → Prop} {H0 : Heap}
theorem rn_sld (hx : p.tables.exec = Jvm.exec) (hb : c.code = cc) {b L : Nat} {xs : Nat → Int32} (hX : va_X b L xs s H0) (hbl : b < H0.size) (hbA : ¬ A b) (hS : va_S A H0 H locs) {i : Nat} (hi : i < L) (hL : L < 2 ^ 31) (hdg : decode cc pc = .ok (.iaload, 1)) (kk : W p l e R s m args below meth c H locs cells slots Q (F0 m (pc + 1) ls (.int (xs i) :: rest))) : W p l e R s m args below meth c H locs cells slots Q (F0 m pc ls (.int (nI i) :: .ref b :: rest)) := va_sld hx hb hX hbl hbA hS (vp_in_nI hi hL) hdg (by rw [nI_clamp (Nat.lt_trans hi hL)]; exact kk)
theorem lq_NS {t : Nat} (hT0 : va_T .int t 32 (fun j => .int (sp_tb.getD j 0)) A s s.heap) (hZ0 : va_Z RX0 "NAME_STARTS" "[I" (.ref t) A s s.heap) (hS : va_S A s.heap H locs) : ∀ U : State, U.heap = H → s.vm.Alike U.vm → cn_NS t U := fun U hU hv => ⟨by rw [hU]; exact va_T.moved hv ((hT0.kept hS.2.1).narrow (fun _ h => h.elim)), by rw [hU]; exact va_Z.moved hv ((hZ0.kept hS.2.1).narrow (fun _ h => h.elim))⟩
end LS
