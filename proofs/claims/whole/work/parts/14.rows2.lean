theorem mv_of {l : Launch} {y : MethodName} {own : String} {wd wd' : List Cond} {rm : Room} {cc : ByteArray} {maxL : Nat} {D : va_G} {cl : List vw_C} {ws : va_W} {tys : List (ClassId × FieldType)} {A : Nat → Prop} {av : List Value} {post : va_W → Prop} (hy : plainName y.cls = true) (hw : wd = Cond.code y cc maxL none :: wd') (ho : y.cls = own) (hn : (lg_sl av).length ≤ maxL)
    (body : ∀ (p : Program) (e : Env) (s : State) (m : MethodId) (below : List Frame) (meth : Method) (c : Code), p.tables.exec = Jvm.exec → c.code = cc → meth.sig.returnType = none → (∀ w ∈ wd, w.before av.toArray s = true) → s.vm.findClass own = some m.cls → meth.locks = false → c.maxLocals = maxL → va_P D cl ws s.heap → va_K D cl tys s → va_D A ws → va_S A s.heap s.heap [] → ∀ ls : Array Slot, lv_has ls maxL (lv_args 0 av) → W p l e rm s m av.toArray below meth c s.heap [] 0 0 (MQ below (va_Qv post (mu_B D cl tys A) A) av.toArray s 0 0 A) (F0 m 0 ls [])) : Met l y wd rm (mu_Pc D cl ws tys A av) (va_Qv post (mu_B D cl tys A) A) 0 0 A := by
  refine Met.ofW (cc := cc) (maxL := maxL) (ret := none) hy hw ?_
  intro p e s m args below meth c s₁ B hml hv
  obtain ⟨rfl, hP, hK, hD⟩ := hv
  have hl := lv_entry av (n := maxL) hn
  rw [lg_entry_eq]
  subst ho
  exact body p e s m below meth c B.exec B.bytes B.returns (atoms_spec (ws := wd) B.pre) (findClass_of_methodNamed B.named) B.notSynchronized hml hP hK hD va_S.rf _ hl
section RZ
variable {p : Program} {l : Launch} {e : Env} {R : Room} {s : State} {m : MethodId} {args : Array Value} {below : List Frame} {meth : Method} {c : Code} {H : Heap} {locs : List Loc} {cells slots : Nat} {Q : State → Prop}
variable {cc : ByteArray} {pc : Nat} {ls : Array Slot} {rest : List Value} {D : va_G} {cl : List vw_C} {A : Nat → Prop} {tys : List (ClassId × FieldType)} {ws : va_W}
theorem mu_zret {post : Int32 → va_W → Prop} {v : Int32} (hx : p.tables.exec = Jvm.exec) (hb : c.code = cc) (hr : meth.sig.returnType = some .boolean) (hlocks : meth.locks = false) (hn : narrow .boolean (.int v) = .int v) (hP : va_P D cl ws H) (hK : va_K D cl tys s) (hD : va_D A ws) (hS : va_S A s.heap H locs) (hp : post v ws) (hdg : decode cc pc = .ok (.ireturn, 1)) : W p l e R s m args below meth c H locs 0 0 (MQ below (va_Qi post (mu_B D cl tys A) A) args s 0 0 A) (F0 m pc ls [.int v]) := W.zret hx hb hr hn (fun t ht hW => ⟨⟨v, ws, rfl, hp, by rw [ht]; exact hP, va_K.moved hW.alike hK, hD⟩, hS.F ht⟩) hS.2.2 hdg
end RZ
/-- the reference's cells w hold the draft d and the rows -/
def md_Ok (cI : ClassId) (W : (Nat → Int32) → (Nat → Int32) → (Nat → Int32) → (Nat → Int32) → (Nat → Int32) → Nat → Nat → Nat → Nat → va_W) (d : List Int32) (rows : List (List Int32)) (w : va_W) : Prop := ∃ (sg ta le dr so : Nat → Int32) (us rc n sn : Nat) (S : Nat → Nat), w = W sg ta le dr so us rc n sn ∧ n ≤ 2000 ∧ sn ≤ 20000 ∧ md_S ta le us rc S ∧ d = sp_sl dr 0 n ∧ rows = cn_rows sg S 1 rc
theorem md_S_add {ta le : Nat → Int32} {us rc sn : Nat} {S : Nat → Nat} (hM : md_S ta le us rc S) (h1 : ¬ rc = 3000) (h2 : us + sn ≤ 20000) : md_S (upd ta (rc + 1) (nI us)) (upd le (rc + 1) (nI sn)) (us + sn) (rc + 1) (cn_S1 S rc sn) := by
  have hu := hM.2.2.2.1
  refine ⟨?_, ?_, ?_, ?_, h2, by have := hM.2.2.2.2.2; omega⟩
  · show (if 1 = rc + 1 + 1 then _ else S 1) = 0
    rw [if_neg (by omega)]; exact hM.1
  · intro k hk1 hk2
    show _ = nI (if k = rc + 1 + 1 then _ else S k) ∧ _ = nI ((if k + 1 = rc + 1 + 1 then _ else S (k + 1)) - (if k = rc + 1 + 1 then _ else S k))
    rw [if_neg (show ¬ k = rc + 1 + 1 by omega)]
    by_cases q : k = rc + 1
    · subst q
      rw [pk_us, pk_us, if_pos rfl, hu]
      exact ⟨rfl, by congr 1; omega⟩
    · rw [pk_un q, pk_un q, if_neg (by omega)]
      exact hM.2.1 k hk1 (by omega)
  · intro k hk1 hk2
    show (if k = rc + 1 + 1 then _ else S k) ≤ (if k + 1 = rc + 1 + 1 then _ else S (k + 1))
    rw [if_neg (by omega)]
    by_cases q : k + 1 = rc + 1 + 1
    · rw [if_pos q, show k = rc + 1 by omega]; omega
    · rw [if_neg q]; exact hM.2.2.1 k hk1 (by omega)
  · show us + sn = (if rc + 1 + 1 = rc + 1 + 1 then _ else _)
    rw [if_pos rfl, hu]
theorem md_S_0 {ta le : Nat → Int32} {us rc : Nat} {S : Nat → Nat} (hM : md_S ta le us rc S) : md_S ta le 0 0 S := ⟨hM.1, fun k h1 h2 => absurd h1 (by omega), fun k h1 h2 => absurd h1 (by omega), hM.1.symm, by omega, by omega⟩
/-- number(): nothing free -/
theorem md_nb_full {sg ta le : Nat → Int32} {us rc sn : Nat} {S : Nat → Nat} {d : List Int32} (hM : md_S ta le us rc S) (hF : sp_fd d (cn_rows sg S 1 rc) 1 = none) (hd : d.length = sn) (h : rc = 3000 ∨ 20000 < us + sn) : sp_numberOf (cn_rows sg S 1 rc) d = (cn_rows sg S 1 rc, -1) := by
  unfold sp_numberOf
  rw [hF]
  show (if _ then _ else _) = _
  rw [if_neg]
  rw [cn_rows_len, cn_sum (md_R hM) rc (Nat.le_refl _), hd, ← hM.2.2.2.1]
  omega
theorem md_nb_new {sg f so ta le : Nat → Int32} {us rc sn : Nat} {S : Nat → Nat} (hM : md_S ta le us rc S) (hF : sp_fd (sp_sl so 0 sn) (cn_rows sg S 1 rc) 1 = none) (h1 : ¬ rc = 3000) (h2 : us + sn ≤ 20000) (i1 : ∀ z, z < us → f z = sg z) (i2 : ∀ z, z < sn → f (us + z) = so z) : sp_numberOf (cn_rows sg S 1 rc) (sp_sl so 0 sn) = (cn_rows f (cn_S1 S rc sn) 1 (rc + 1), nI (rc + 1)) := by
  have hu := hM.2.2.2.1
  have hc := hM.2.2.2.2.2
  unfold sp_numberOf
  rw [hF]
  show (if _ then _ else _) = _
  rw [if_pos (by rw [cn_rows_len, cn_sum (md_R hM) rc (Nat.le_refl _), sp_len, ← hu]; omega), cn_rows_len, cn_rows_snoc]
  have eA : cn_rows sg S 1 rc = cn_rows f (cn_S1 S rc sn) 1 rc := by
    apply cn_rows_ext
    intro i hi
    unfold cn_row cn_S1
    rw [if_neg (by omega), if_neg (by omega)]
    apply sp_ext
    intro x hx
    have := cn_mono (md_R hM) (j := 1 + i + 1) (k := rc + 1) (by omega) (by omega) (Nat.le_refl _)
    rw [i1 _ (by omega)]
  have eB : sp_sl so 0 sn = cn_row f (cn_S1 S rc sn) (1 + rc) := by
    unfold cn_row cn_S1
    rw [if_neg (by omega), if_pos (by omega), show 1 + rc = rc + 1 by omega, ← hu, show us + sn - us = sn by omega]
    apply sp_ext
    intro x hx
    rw [i2 x hx, Nat.zero_add]
  rw [← eA, ← eB]
theorem md_nb_old {rows : List (List Int32)} {d : List Int32} {k : Nat} (hF : sp_fd d rows 1 = some k) : sp_numberOf rows d = (rows, nI k) := by
  unfold sp_numberOf
  rw [hF]
theorem sp_fd_ge {d : List Int32} : ∀ (rows : List (List Int32)) (k j : Nat), sp_fd d rows k = some j → k ≤ j := by
  intro rows
  induction rows with
  | nil => intro k j h; simp [sp_fd] at h
  | cons r rs ih =>
    intro k j h
    rw [sp_fd] at h
    by_cases q : r = d
    · rw [if_pos q] at h; cases h; exact Nat.le_refl _
    · rw [if_neg q] at h
      have := ih (k + 1) j h
      omega
theorem sp_nb_ans {rows : List (List Int32)} {d : List Int32} (h : rows.length ≤ 3000) : (sp_numberOf rows d).2 = -1 ∨ ∃ k, k < 2 ^ 31 ∧ (sp_numberOf rows d).2 = nI k := by
  unfold sp_numberOf
  cases hf : sp_fd d rows 1 with
  | some k => exact Or.inr ⟨k, by have := sp_fd_lt rows 1 k hf; omega, rfl⟩
  | none =>
    show (if _ then _ else _ : List (List Int32) × Int32).2 = -1 ∨ _
    by_cases q : rows.length < 3000 ∧ d.length + sp_sum rows ≤ 20000
    · right
      refine ⟨rows.length + 1, by omega, ?_⟩
      show (if _ then _ else _ : List (List Int32) × Int32).2 = _
      rw [if_pos q]
    · left
      rw [if_neg q]
