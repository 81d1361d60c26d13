section
section RN
variable {p : Program} {l : Launch} {e : Env} {R : Room} {s : State} {m : MethodId} {args : Array Value} {below : List Frame} {meth : Method} {c : Code} {H : Heap} {locs : List Loc} {cells slots : Nat} {Q : State → Prop}
variable {cc : ByteArray} {pc : Nat} {ls : Array Slot} {rest : List Value}
theorem rn_iadd (hx : p.tables.exec = Jvm.exec) (hb : c.code = cc) {x y : Nat} (hdg : decode cc pc = .ok (.iadd, 1)) (k : W p l e R s m args below meth c H locs cells slots Q (F0 m (pc + 1) ls (.int (nI (x + y)) :: rest))) : W p l e R s m args below meth c H locs cells slots Q (F0 m pc ls (.int (nI y) :: .int (nI x) :: rest)) := lv_iadd hx hb hdg (by rw [nI_add]; exact k)
theorem rn_isub (hx : p.tables.exec = Jvm.exec) (hb : c.code = cc) {x y : Nat} (h : y ≤ x) (hdg : decode cc pc = .ok (.isub, 1)) (k : W p l e R s m args below meth c H locs cells slots Q (F0 m (pc + 1) ls (.int (nI (x - y)) :: rest))) : W p l e R s m args below meth c H locs cells slots Q (F0 m pc ls (.int (nI y) :: .int (nI x) :: rest)) := lv_isub hx hb hdg (by rw [pk_sub h]; exact k)
theorem rn_iinc (hx : p.tables.exec = Jvm.exec) (hb : c.code = cc) {i nL k n : Nat} {x : Nat} {lv lv' : List (Nat × Value)} (hdg : decode cc pc = .ok (.iinc i (n : Int), 3)) (h : lv_has ls nL lv) (hk : lv[k]? = some (i, .int (nI x))) (hn : i < nL) (hl : (i, Value.int (nI (x + n))) :: lv.filter (fun q => !(q.1 == i) && !(q.1 + 1 == i && q.2.category == 2)) = lv') (kk : ∀ ls' : Array Slot, lv_has ls' nL lv' → W p l e R s m args below meth c H locs cells slots Q (F0 m (pc + 3) ls' rest)) : W p l e R s m args below meth c H locs cells slots Q (F0 m pc ls rest) := lv_iinc (v := nI (x + n)) hx hb hdg h hk (by rw [← nI_add]; rfl) hn hl kk
theorem rn_icmp_ge (hx : p.tables.exec = Jvm.exec) (hb : c.code = cc) {x y : Nat} (hX : x < 2 ^ 31) (hY : y < 2 ^ 31) {off : Int} {tgt : Nat} (hdg : decode cc pc = .ok (.if_icmp .ge off, 3)) (ht : (pc : Int) + off = (tgt : Int)) (kt : y ≤ x → W p l e R s m args below meth c H locs cells slots Q (F0 m tgt ls rest)) (kf : x < y → W p l e R s m args below meth c H locs cells slots Q (F0 m (pc + 3) ls rest)) : W p l e R s m args below meth c H locs cells slots Q (F0 m pc ls (.int (nI y) :: .int (nI x) :: rest)) := lv_icmp_ge hx hb hdg ht (fun h => kt ((nI_leI hY hX).mp h)) (fun h => kf (Nat.lt_of_not_le (fun q => h ((nI_leI hY hX).mpr q))))
theorem rn_icmp_lt (hx : p.tables.exec = Jvm.exec) (hb : c.code = cc) {x y : Nat} (hX : x < 2 ^ 31) (hY : y < 2 ^ 31) {off : Int} {tgt : Nat} (hdg : decode cc pc = .ok (.if_icmp .lt off, 3)) (ht : (pc : Int) + off = (tgt : Int)) (kt : x < y → W p l e R s m args below meth c H locs cells slots Q (F0 m tgt ls rest)) (kf : y ≤ x → W p l e R s m args below meth c H locs cells slots Q (F0 m (pc + 3) ls rest)) : W p l e R s m args below meth c H locs cells slots Q (F0 m pc ls (.int (nI y) :: .int (nI x) :: rest)) := lv_icmp_lt hx hb hdg ht (fun h => kt ((nI_ltI hX hY).mp h)) (fun h => kf (Nat.le_of_not_lt (fun q => h ((nI_ltI hX hY).mpr q))))
theorem rn_icmp_gt (hx : p.tables.exec = Jvm.exec) (hb : c.code = cc) {x y : Nat} (hX : x < 2 ^ 31) (hY : y < 2 ^ 31) {off : Int} {tgt : Nat} (hdg : decode cc pc = .ok (.if_icmp .gt off, 3)) (ht : (pc : Int) + off = (tgt : Int)) (kt : y < x → W p l e R s m args below meth c H locs cells slots Q (F0 m tgt ls rest)) (kf : x ≤ y → W p l e R s m args below meth c H locs cells slots Q (F0 m (pc + 3) ls rest)) : W p l e R s m args below meth c H locs cells slots Q (F0 m pc ls (.int (nI y) :: .int (nI x) :: rest)) := lv_icmp_gt hx hb hdg ht (fun h => kt ((nI_ltI hY hX).mp h)) (fun h => kf (Nat.le_of_not_lt (fun q => h ((nI_ltI hY hX).mpr q))))
theorem rn_icmp_le (hx : p.tables.exec = Jvm.exec) (hb : c.code = cc) {x y : Nat} (hX : x < 2 ^ 31) (hY : y < 2 ^ 31) {off : Int} {tgt : Nat} (hdg : decode cc pc = .ok (.if_icmp .le off, 3)) (ht : (pc : Int) + off = (tgt : Int)) (kt : x ≤ y → W p l e R s m args below meth c H locs cells slots Q (F0 m tgt ls rest)) (kf : y < x → W p l e R s m args below meth c H locs cells slots Q (F0 m (pc + 3) ls rest)) : W p l e R s m args below meth c H locs cells slots Q (F0 m pc ls (.int (nI y) :: .int (nI x) :: rest)) := lv_icmp_le hx hb hdg ht (fun h => kt ((nI_leI hX hY).mp h)) (fun h => kf (Nat.lt_of_not_le (fun q => h ((nI_leI hX hY).mpr q))))
theorem rn_icmp_eq (hx : p.tables.exec = Jvm.exec) (hb : c.code = cc) {x y : Nat} (hX : x < 2 ^ 31) (hY : y < 2 ^ 31) {off : Int} {tgt : Nat} (hdg : decode cc pc = .ok (.if_icmp .eq off, 3)) (ht : (pc : Int) + off = (tgt : Int)) (kt : x = y → W p l e R s m args below meth c H locs cells slots Q (F0 m tgt ls rest)) (kf : x ≠ y → W p l e R s m args below meth c H locs cells slots Q (F0 m (pc + 3) ls rest)) : W p l e R s m args below meth c H locs cells slots Q (F0 m pc ls (.int (nI y) :: .int (nI x) :: rest)) := lv_icmp_eq hx hb hdg ht (fun h => kt ((nI_eq hX hY).mp h)) (fun h => kf (fun q => h ((nI_eq hX hY).mpr q)))
theorem rn_icmp_ne (hx : p.tables.exec = Jvm.exec) (hb : c.code = cc) {x y : Nat} (hX : x < 2 ^ 31) (hY : y < 2 ^ 31) {off : Int} {tgt : Nat} (hdg : decode cc pc = .ok (.if_icmp .ne off, 3)) (ht : (pc : Int) + off = (tgt : Int)) (kt : x ≠ y → W p l e R s m args below meth c H locs cells slots Q (F0 m tgt ls rest)) (kf : x = y → W p l e R s m args below meth c H locs cells slots Q (F0 m (pc + 3) ls rest)) : W p l e R s m args below meth c H locs cells slots Q (F0 m pc ls (.int (nI y) :: .int (nI x) :: rest)) := lv_icmp_ne hx hb hdg ht (fun h => kt (fun q => h ((nI_eq hX hY).mpr q))) (fun h => kf ((nI_eq hX hY).mp h))
end RN
section RA
variable {p : Program} {l : Launch} {e : Env} {R : Room} {s : State} {m : MethodId} {args : Array Value} {below : List Frame} {meth : Method} {c : Code} {H : Heap} {locs : List Loc} {cells slots : Nat} {Q : State → Prop}
variable {cc : ByteArray} {pc : Nat} {ls : Array Slot} {rest : List Value} {D : va_G} {cl : List vw_C} {A : Nat → Prop} {a : Nat} {tys : List (ClassId × FieldType)} {ws : va_W} {H0 : Heap}
theorem rn_ald (hx : p.tables.exec = Jvm.exec) (hb : c.code = cc) (hK : va_K D cl tys s) (hP : va_P D cl ws H) (q0 t0 : Nat) {cA : ClassId} {n : Nat} {f : Nat → Int32} (ha : ws[q0]? = some (a, .inl (cA, n, .inl f))) (ht : tys[t0]? = some (cA, .int)) {i : Nat} (hi : i < n) (hn : n < 2 ^ 31) {v : Int32} (hv : f i = v) (hdg : decode cc pc = .ok (.iaload, 1)) (kk : W p l e R s m args below meth c H locs cells slots Q (F0 m (pc + 1) ls (.int v :: rest))) : W p l e R s m args below meth c H locs cells slots Q (F0 m pc ls (.int (nI i) :: .ref a :: rest)) := va_iald hx hb hK hP q0 t0 ha ht (vp_in_nI hi hn) hdg (by rw [nI_clamp (Nat.lt_trans hi hn), hv]; exact kk)
theorem rn_ast (hx : p.tables.exec = Jvm.exec) (hb : c.code = cc) (hK : va_K D cl tys s) (hP : va_P D cl ws H) (hD : va_D A ws) (hS : va_S A H0 H locs) (q0 t0 : Nat) {cA : ClassId} {n : Nat} {f : Nat → Int32} (ha : ws[q0]? = some (a, .inl (cA, n, .inl f))) (ht : tys[t0]? = some (cA, .int)) {i : Nat} {x : Int32} (hi : i < n) (hn : n < 2 ^ 31) (hdg : decode cc pc = .ok (.iastore, 1)) (kk : ∀ (H1 : Heap) (locs1 : List Loc), va_P D cl (ws.set q0 (a, .inl (cA, n, .inl (upd f i x)))) H1 → va_D A (ws.set q0 (a, .inl (cA, n, .inl (upd f i x)))) → va_S A H0 H1 locs1 → W p l e R s m args below meth c H1 locs1 cells slots Q (F0 m (pc + 1) ls rest)) : W p l e R s m args below meth c H locs cells slots Q (F0 m pc ls (.int x :: .int (nI i) :: .ref a :: rest)) := va_iast hx hb hK hP hD hS q0 t0 ha ht (vp_in_nI hi hn) hdg (by rw [nI_clamp (Nat.lt_trans hi hn)]; exact kk)
end RA
def pu_Pc (D : va_G) (cl : List vw_C) (ws : va_W) (tys : List (ClassId × FieldType)) (av : List Value) : Array Value → State → Prop := va_Pc av (fun U => va_P D cl ws U.heap ∧ va_K D cl tys U)
theorem pu_blind {D : va_G} {cl : List vw_C} {ws : va_W} {tys : List (ClassId × FieldType)} {av : List Value} : FrameBlind (pu_Pc D cl ws tys av) := fun a U g mk q => ⟨q.1, q.2.1, va_K.moved (u := U) (U := U.calling g mk a) (Vm.Alike.refl U.vm) q.2.2⟩
theorem pu_preV {s : State} {H : Heap} {D : va_G} {cl : List vw_C} {ws : va_W} {tys : List (ClassId × FieldType)} {a ci : Nat} {q : vw_C} {fs : List Value} {As : List Value} (hK : va_K D cl tys s) (hP : va_P D cl ws H) (q0 : Nat) (he : ws[q0]? = some (a, .inr (ci, fs))) (hc : cl[ci]? = some q) : PreV s H q.1 a (pu_Pc D cl ws tys (.ref a :: As)) As := ⟨pu_blind, va_recv hK hP hc he, fun U hU hW => ⟨rfl, by rw [hU]; exact hP, va_K.moved hW.alike hK⟩⟩
theorem pu_preS {s : State} {H : Heap} {D : va_G} {cl : List vw_C} {ws : va_W} {tys : List (ClassId × FieldType)} {As : List Value} (hK : va_K D cl tys s) (hP : va_P D cl ws H) : PreS s H (pu_Pc D cl ws tys As) As := ⟨pu_blind, fun U hU hW => ⟨rfl, by rw [hU]; exact hP, va_K.moved hW.alike hK⟩⟩
theorem pu_of {l : Launch} {y : MethodName} {own : String} {wd wd' : List Cond} {rm : Room} {cc : ByteArray} {maxL : Nat} {ret : Option FieldType} {D : va_G} {cl : List vw_C} {ws : va_W} {tys : List (ClassId × FieldType)} {av : List Value} {post : Int32 → Prop} (hy : plainName y.cls = true) (hw : wd = Cond.code y cc maxL ret :: wd') (ho : y.cls = own) (hn : (lg_sl av).length ≤ maxL)
    (body : ∀ (p : Program) (e : Env) (s : State) (m : MethodId) (below : List Frame) (meth : Method) (c : Code), p.tables.exec = Jvm.exec → c.code = cc → meth.sig.returnType = ret → (∀ w ∈ wd, w.before av.toArray s = true) → s.vm.findClass own = some m.cls → meth.locks = false → c.maxLocals = maxL → va_P D cl ws s.heap → va_K D cl tys s → ∀ ls : Array Slot, lv_has ls maxL (lv_args 0 av) → W p l e rm s m av.toArray below meth c s.heap [] 0 0 (MQ below (vp_Si post) av.toArray s 0 0 (fun _ => False)) (F0 m 0 ls [])) : Met l y wd rm (pu_Pc D cl ws tys av) (vp_Si post) 0 0 (fun _ => False) := by
  refine Met.ofW (cc := cc) (maxL := maxL) (ret := ret) hy hw ?_
  intro p e s m args below meth c s₁ B hml hv
  obtain ⟨rfl, hP, hK⟩ := hv
  have hl := lv_entry av (n := maxL) hn
  rw [lg_entry_eq]
  subst ho
  exact body p e s m below meth c B.exec B.bytes B.returns (atoms_spec (ws := wd) B.pre) (findClass_of_methodNamed B.named) B.notSynchronized hml hP hK _ hl
section RP
variable {p : Program} {l : Launch} {e : Env} {R : Room} {s : State} {m : MethodId} {args : Array Value} {below : List Frame} {meth : Method} {c : Code} {H : Heap} {locs : List Loc} {cells slots : Nat} {Q : State → Prop}
variable {cc : ByteArray} {pc : Nat} {ls : Array Slot} {rest : List Value}
theorem pu_iret {post : Int32 → Prop} {v : Int32} (hx : p.tables.exec = Jvm.exec) (hb : c.code = cc) (hr : meth.sig.returnType = some .int) (hlocks : meth.locks = false) (hp : post v) (hdg : decode cc pc = .ok (.ireturn, 1)) : W p l e R s m args below meth c s.heap [] 0 0 (MQ below (vp_Si post) args s 0 0 (fun _ => False)) (F0 m pc ls [.int v]) := W.iret hx hb hr (fun t ht _ => ⟨v, rfl, hp, ht⟩) (fun _ h => absurd h List.not_mem_nil) hdg
theorem pu_zret {post : Int32 → Prop} {v : Int32} (hx : p.tables.exec = Jvm.exec) (hb : c.code = cc) (hr : meth.sig.returnType = some .boolean) (hlocks : meth.locks = false) (hn : narrow .boolean (.int v) = .int v) (hp : post v) (hdg : decode cc pc = .ok (.ireturn, 1)) : W p l e R s m args below meth c s.heap [] 0 0 (MQ below (vp_Si post) args s 0 0 (fun _ => False)) (F0 m pc ls [.int v]) := W.zret hx hb hr hn (fun t ht _ => ⟨v, rfl, hp, ht⟩) (fun _ h => absurd h List.not_mem_nil) hdg
end RP
def mu_Pc (D : va_G) (cl : List vw_C) (ws : va_W) (tys : List (ClassId × FieldType)) (A : Nat → Prop) (av : List Value) : Array Value → State → Prop := va_Pc av (fun U => va_P D cl ws U.heap ∧ va_K D cl tys U ∧ va_D A ws)
theorem mu_blind {D : va_G} {cl : List vw_C} {ws : va_W} {tys : List (ClassId × FieldType)} {A : Nat → Prop} {av : List Value} : FrameBlind (mu_Pc D cl ws tys A av) := fun a U g mk q => ⟨q.1, q.2.1, va_K.moved (u := U) (U := U.calling g mk a) (Vm.Alike.refl U.vm) q.2.2.1, q.2.2.2⟩
theorem mu_preV {s : State} {H : Heap} {D : va_G} {cl : List vw_C} {ws : va_W} {tys : List (ClassId × FieldType)} {A : Nat → Prop} {a ci : Nat} {q : vw_C} {fs : List Value} {As : List Value} (hK : va_K D cl tys s) (hP : va_P D cl ws H) (hD : va_D A ws) (q0 : Nat) (he : ws[q0]? = some (a, .inr (ci, fs))) (hc : cl[ci]? = some q) : PreV s H q.1 a (mu_Pc D cl ws tys A (.ref a :: As)) As := ⟨mu_blind, va_recv hK hP hc he, fun U hU hW => ⟨rfl, by rw [hU]; exact hP, va_K.moved hW.alike hK, hD⟩⟩
def mu_B (D : va_G) (cl : List vw_C) (tys : List (ClassId × FieldType)) (A : Nat → Prop) (w : va_W) (t : State) : Prop := va_P D cl w t.heap ∧ va_K D cl tys t ∧ va_D A w
theorem mu_of {l : Launch} {y : MethodName} {own : String} {wd wd' : List Cond} {rm : Room} {cc : ByteArray} {maxL : Nat} {ret : Option FieldType} {D : va_G} {cl : List vw_C} {ws : va_W} {tys : List (ClassId × FieldType)} {A : Nat → Prop} {av : List Value} {post : Int32 → va_W → Prop} (hy : plainName y.cls = true) (hw : wd = Cond.code y cc maxL ret :: wd') (ho : y.cls = own) (hn : (lg_sl av).length ≤ maxL)
    (body : ∀ (p : Program) (e : Env) (s : State) (m : MethodId) (below : List Frame) (meth : Method) (c : Code), p.tables.exec = Jvm.exec → c.code = cc → meth.sig.returnType = ret → (∀ w ∈ wd, w.before av.toArray s = true) → s.vm.findClass own = some m.cls → meth.locks = false → c.maxLocals = maxL → va_P D cl ws s.heap → va_K D cl tys s → va_D A ws → va_S A s.heap s.heap [] → ∀ ls : Array Slot, lv_has ls maxL (lv_args 0 av) → W p l e rm s m av.toArray below meth c s.heap [] 0 0 (MQ below (va_Qi post (mu_B D cl tys A) A) av.toArray s 0 0 A) (F0 m 0 ls [])) : Met l y wd rm (mu_Pc D cl ws tys A av) (va_Qi post (mu_B D cl tys A) A) 0 0 A := by
  refine Met.ofW (cc := cc) (maxL := maxL) (ret := ret) hy hw ?_
  intro p e s m args below meth c s₁ B hml hv
  obtain ⟨rfl, hP, hK, hD⟩ := hv
  have hl := lv_entry av (n := maxL) hn
  rw [lg_entry_eq]
  subst ho
  exact body p e s m below meth c B.exec B.bytes B.returns (atoms_spec (ws := wd) B.pre) (findClass_of_methodNamed B.named) B.notSynchronized hml hP hK hD va_S.rf _ hl
section RM
variable {p : Program} {l : Launch} {e : Env} {R : Room} {s : State} {m : MethodId} {args : Array Value} {below : List Frame} {meth : Method} {c : Code} {H : Heap} {locs : List Loc} {cells slots : Nat} {Q : State → Prop}
variable {cc : ByteArray} {pc : Nat} {ls : Array Slot} {rest : List Value} {D : va_G} {cl : List vw_C} {A : Nat → Prop} {tys : List (ClassId × FieldType)} {ws : va_W}
theorem mu_iret {post : Int32 → va_W → Prop} {v : Int32} (hx : p.tables.exec = Jvm.exec) (hb : c.code = cc) (hr : meth.sig.returnType = some .int) (hlocks : meth.locks = false) (hP : va_P D cl ws H) (hK : va_K D cl tys s) (hD : va_D A ws) (hS : va_S A s.heap H locs) (hp : post v ws) (hdg : decode cc pc = .ok (.ireturn, 1)) : W p l e R s m args below meth c H locs 0 0 (MQ below (va_Qi post (mu_B D cl tys A) A) args s 0 0 A) (F0 m pc ls [.int v]) := W.iret hx hb hr (fun t ht hW => ⟨⟨v, ws, rfl, hp, by rw [ht]; exact hP, va_K.moved hW.alike hK, hD⟩, hS.F ht⟩) hS.2.2 hdg
theorem mu_calli {post : Int32 → va_W → Prop} {st0 : List Value} {a : Array Value} {H0 : Heap} (hr : va_Run p l e R s m args below meth c H locs cells slots 0 0 (F0 m pc ls st0) rest (va_Qi post (mu_B D cl tys A) A a) A) (hS : va_S A H0 H locs)
    (kk : ∀ (r : Int32) (w : va_W) (H1 : Heap) (locs1 : List Loc), post r w → va_P D cl w H1 → va_D A w → va_S A H0 H1 locs1 → W p l e R s m args below meth c H1 locs1 cells slots Q (F0 m (pc + 3) ls (.int r :: rest))) : W p l e R s m args below meth c H locs cells slots Q (F0 m pc ls st0) := by
  refine va_calli hr hS (fun _ _ h => h) (fun _ h => h) (fun r u t H1 locs1 ht hvm hw hB hz1 hk1 hS1 => ?_)
  obtain ⟨hP, hK, hD⟩ := hB
  rw [ht] at hP
  exact kk r u H1 locs1 hw hP hD hS1
end RM
section RC
variable {p : Program} {l : Launch} {e : Env} {R : Room} {s : State} {m : MethodId} {args : Array Value} {below : List Frame} {meth : Method} {c : Code} {H : Heap} {locs : List Loc} {cells slots : Nat} {Q : State → Prop}
variable {pc : Nat} {ls : Array Slot} {rest : List Value} {D : va_G} {cl : List vw_C} {A : Nat → Prop} {a : Nat} {tys : List (ClassId × FieldType)} {ws : va_W} {H0 : Heap}
theorem rn_copy {cc : ByteArray} (hx : p.tables.exec = Jvm.exec) (hb : c.code = cc) (hml : c.maxLocals = ls.size) {own : String} {index : Nat} (hown : s.vm.findClass own = some m.cls) (hlink : (Cond.methodLink own index arraycopyName).before args s = true) (hnat : (Cond.native arraycopyName).before args s = true) (hstat : (Cond.static arraycopyName).before args s = true) (hini : (Cond.initialized "java/lang/System").before args s = true)
    (hK : va_K D cl tys s) (hP : va_P D cl ws H) (hD : va_D A ws) (hS : va_S A H0 H locs) (q0 q1 t0 t1 : Nat) {a0 : Nat} {c0 c1 : ClassId} {n0 n1 : Nat} {f g : Nat → Int32} (ha0 : ws[q0]? = some (a0, .inl (c0, n0, .inl f))) (ha1 : ws[q1]? = some (a, .inl (c1, n1, .inl g))) (ht0 : tys[t0]? = some (c0, .int)) (ht1 : tys[t1]? = some (c1, .int))
    {sp dp n : Nat} (h4 : sp + n ≤ n0) (h5 : dp + n ≤ n1) (hn0 : n0 < 2 ^ 31) (hn1 : n1 < 2 ^ 31)
    (hframes : 1 ≤ R.frames) (hlocals : (rest.map fun v => v.category).sum + (nativeFrameWords "java/lang/System" "arraycopy" 5 + 11) ≤ R.locals) (hdg : decode cc pc = .ok (.invokestatic index, 3))
    (kk : ∀ (H1 : Heap) (locs1 : List Loc), va_P D cl (ws.set q1 (a, .inl (c1, n1, .inl (va_cpy f g sp dp n)))) H1 → va_D A (ws.set q1 (a, .inl (c1, n1, .inl (va_cpy f g sp dp n)))) → va_S A H0 H1 locs1 → W p l e R s m args below meth c H1 locs1 cells slots Q (F0 m (pc + 3) ls rest)) : W p l e R s m args below meth c H locs cells slots Q (F0 m pc ls (.int (nI n) :: .int (nI dp) :: .ref a :: .int (nI sp) :: .ref a0 :: rest)) := by
  have e1 : (nI sp).toNatClampNeg = sp := nI_clamp (by omega)
  have e2 : (nI dp).toNatClampNeg = dp := nI_clamp (by omega)
  have e3 : (nI n).toNatClampNeg = n := nI_clamp (by omega)
  refine va_copyi hx hb hml hown hlink hnat hstat hini hK hP hD hS q0 q1 t0 t1 ha0 ha1 ht0 ht1 rfl (nI_pos (by omega)) (nI_pos (by omega)) (nI_pos (by omega)) (by rw [e1, e3]; exact h4) (by rw [e2, e3]; exact h5) (fun i _ => rfl) hframes hlocals hdg ?_
  rw [e1, e2, e3]
  exact kk
end RC
/-! pure contracts that carry a fact E of the start (tables) -/
def pz_Pc (D : va_G) (cl : List vw_C) (ws : va_W) (tys : List (ClassId × FieldType)) (E : State → Prop) (av : List Value) : Array Value → State → Prop := va_Pc av (fun U => va_P D cl ws U.heap ∧ va_K D cl tys U ∧ E U)
def pz_E (E : State → Prop) : Prop := ∀ u U : State, u.vm.Alike U.vm → U.heap = u.heap → E u → E U
theorem pz_blind {D : va_G} {cl : List vw_C} {ws : va_W} {tys : List (ClassId × FieldType)} {E : State → Prop} (hE : pz_E E) {av : List Value} : FrameBlind (pz_Pc D cl ws tys E av) := fun a U g mk q => ⟨q.1, q.2.1, va_K.moved (u := U) (U := U.calling g mk a) (Vm.Alike.refl U.vm) q.2.2.1, hE U (U.calling g mk a) (Vm.Alike.refl U.vm) rfl q.2.2.2⟩
theorem pz_preV {s : State} {H : Heap} {D : va_G} {cl : List vw_C} {ws : va_W} {tys : List (ClassId × FieldType)} {E : State → Prop} (hE : pz_E E) {a ci : Nat} {q : vw_C} {fs : List Value} {As : List Value} (hK : va_K D cl tys s) (hP : va_P D cl ws H) (h : ∀ U : State, U.heap = H → s.vm.Alike U.vm → E U) (q0 : Nat) (he : ws[q0]? = some (a, .inr (ci, fs))) (hc : cl[ci]? = some q) : PreV s H q.1 a (pz_Pc D cl ws tys E (.ref a :: As)) As := ⟨pz_blind hE, va_recv hK hP hc he, fun U hU hW => ⟨rfl, by rw [hU]; exact hP, va_K.moved hW.alike hK, h U hU hW.alike⟩⟩
theorem pz_preS {s : State} {H : Heap} {D : va_G} {cl : List vw_C} {ws : va_W} {tys : List (ClassId × FieldType)} {E : State → Prop} (hE : pz_E E) {As : List Value} (hK : va_K D cl tys s) (hP : va_P D cl ws H) (h : ∀ U : State, U.heap = H → s.vm.Alike U.vm → E U) : PreS s H (pz_Pc D cl ws tys E As) As := ⟨pz_blind hE, fun U hU hW => ⟨rfl, by rw [hU]; exact hP, va_K.moved hW.alike hK, h U hU hW.alike⟩⟩
theorem pz_of {l : Launch} {y : MethodName} {own : String} {wd wd' : List Cond} {rm : Room} {cc : ByteArray} {maxL : Nat} {ret : Option FieldType} {D : va_G} {cl : List vw_C} {ws : va_W} {tys : List (ClassId × FieldType)} {E : State → Prop} {av : List Value} {post : Int32 → Prop} (hy : plainName y.cls = true) (hw : wd = Cond.code y cc maxL ret :: wd') (ho : y.cls = own) (hn : (lg_sl av).length ≤ maxL)
    (body : ∀ (p : Program) (e : Env) (s : State) (m : MethodId) (below : List Frame) (meth : Method) (c : Code), p.tables.exec = Jvm.exec → c.code = cc → meth.sig.returnType = ret → (∀ w ∈ wd, w.before av.toArray s = true) → s.vm.findClass own = some m.cls → meth.locks = false → c.maxLocals = maxL → va_P D cl ws s.heap → va_K D cl tys s → E s → ∀ ls : Array Slot, lv_has ls maxL (lv_args 0 av) → W p l e rm s m av.toArray below meth c s.heap [] 0 0 (MQ below (vp_Si post) av.toArray s 0 0 (fun _ => False)) (F0 m 0 ls [])) : Met l y wd rm (pz_Pc D cl ws tys E av) (vp_Si post) 0 0 (fun _ => False) := by
  refine Met.ofW (cc := cc) (maxL := maxL) (ret := ret) hy hw ?_
  intro p e s m args below meth c s₁ B hml hv
  obtain ⟨rfl, hP, hK, hE⟩ := hv
  have hl := lv_entry av (n := maxL) hn
  rw [lg_entry_eq]
  subst ho
  exact body p e s m below meth c B.exec B.bytes B.returns (atoms_spec (ws := wd) B.pre) (findClass_of_methodNamed B.named) B.notSynchronized hml hP hK hE _ hl
section RW
variable {p : Program} {l : Launch} {e : Env} {R : Room} {s : State} {m : MethodId} {args : Array Value} {below : List Frame} {meth : Method} {c : Code} {H : Heap} {locs : List Loc} {cells slots : Nat} {Q : State → Prop}
variable {cc : ByteArray} {pc : Nat} {ls : Array Slot} {rest : List Value} {D : va_G} {cl : List vw_C} {A : Nat → Prop} {tys : List (ClassId × FieldType)} {ws : va_W} {H0 : Heap}
theorem rn_newa (hx : p.tables.exec = Jvm.exec) (hb : c.code = cc) (harr : (Cond.arrayClass .int).before args s = true) (hK : va_K D cl tys s) {cI : ClassId} (hty : tys[0]? = some (cI, .int)) (hP : va_P D cl ws H) (hD : va_D A ws) (hS : va_S A H0 H locs) (hA : ∀ q, H0.size ≤ q → A q) {n : Nat} (hn : n < 2 ^ 31) (hbytes : n * componentBytes .int ≤ 536870912) (hcells : cells + 1 ≤ R.cells) (hslots : slots + n ≤ R.slots) (hdg : decode cc pc = .ok (.newarray .int, 2))
    (kk : ∀ (q : Nat) (H1 : Heap), va_P D cl (ws ++ [(q, .inl (cI, n, .inl (fun _ => 0)))]) H1 → va_D A (ws ++ [(q, .inl (cI, n, .inl (fun _ => 0)))]) → va_S A H0 H1 locs → W p l e R s m args below meth c H1 locs (cells + 1) (slots + n) Q (F0 m (pc + 2) ls (.ref q :: rest))) : W p l e R s m args below meth c H locs cells slots Q (F0 m pc ls (.int (nI n) :: rest)) := by
  refine va_newa (atype := .int) (ty := .int) (a0 := (n, .inl (fun _ => 0))) hx hb harr rfl hK hP hD hS hA (fun cA => rfl) (nI_pos hn) (nI_clamp hn) hbytes hcells hslots hdg (fun q cA H1 hK1 hP1 hD1 hS1 => ?_)
  have h1 := va_nm_int (hK.2 0 _ hty).2
  have h2 := va_nm_int (hK1.2 tys.length (cA, .int) (by simp)).2
  have e : cA = cI := Option.some.inj (h2.symm.trans h1)
  subst e
  exact kk q H1 hP1 hD1 hS1
end RW
def mk_Pc (D : va_G) (cl : List vw_C) (ws : va_W) (tys : List (ClassId × FieldType)) (A : Nat → Prop) (av : List Value) : Array Value → State → Prop := va_Pc av (fun U => va_P D cl ws U.heap ∧ va_K D cl tys U ∧ va_D A ws ∧ ∀ q, U.heap.size ≤ q → A q)
theorem mk_blind {D : va_G} {cl : List vw_C} {ws : va_W} {tys : List (ClassId × FieldType)} {A : Nat → Prop} {av : List Value} : FrameBlind (mk_Pc D cl ws tys A av) := fun a U g mk q => ⟨q.1, q.2.1, va_K.moved (u := U) (U := U.calling g mk a) (Vm.Alike.refl U.vm) q.2.2.1, q.2.2.2.1, q.2.2.2.2⟩
theorem mk_preS {s : State} {H : Heap} {D : va_G} {cl : List vw_C} {ws : va_W} {tys : List (ClassId × FieldType)} {A : Nat → Prop} {As : List Value} (hK : va_K D cl tys s) (hP : va_P D cl ws H) (hD : va_D A ws) (hA : ∀ q, H.size ≤ q → A q) : PreS s H (mk_Pc D cl ws tys A As) As := ⟨mk_blind, fun U hU hW => ⟨rfl, by rw [hU]; exact hP, va_K.moved hW.alike hK, hD, by rw [hU]; exact hA⟩⟩
theorem mk_of {l : Launch} {y : MethodName} {own : String} {wd wd' : List Cond} {rm : Room} {cc : ByteArray} {maxL mc ms : Nat} {D : va_G} {cl : List vw_C} {ws : va_W} {tys : List (ClassId × FieldType)} {A : Nat → Prop} {av : List Value} {post : va_W → Prop} (hy : plainName y.cls = true) (hw : wd = Cond.code y cc maxL none :: wd') (ho : y.cls = own) (hyn : y.name = "<init>") (hn : (lg_sl av).length ≤ maxL)
    (body : ∀ (p : Program) (e : Env) (s : State) (m : MethodId) (below : List Frame) (meth : Method) (c : Code), p.tables.exec = Jvm.exec → c.code = cc → meth.sig.returnType = none → (∀ w ∈ wd, w.before av.toArray s = true) → s.vm.findClass own = some m.cls → meth.locks = false → meth.name = "<init>" → c.maxLocals = maxL → va_P D cl ws s.heap → va_K D cl tys s → va_D A ws → va_S A s.heap s.heap [] → (∀ q, s.heap.size ≤ q → A q) → ∀ ls : Array Slot, lv_has ls maxL (lv_args 0 av) → W p l e rm s m av.toArray below meth c s.heap [] 0 0 (MQ below (va_Qv post (mu_B D cl tys A) A) av.toArray s mc ms A) (F0 m 0 ls [])) : Met l y wd rm (mk_Pc D cl ws tys A av) (va_Qv post (mu_B D cl tys A) A) mc ms A := by
  refine Met.ofW (cc := cc) (maxL := maxL) (ret := none) hy hw ?_
  intro p e s m args below meth c s₁ B hml hv
  obtain ⟨rfl, hP, hK, hD, hA⟩ := hv
  have hl := lv_entry av (n := maxL) hn
  rw [lg_entry_eq]
  subst ho
  exact body p e s m below meth c B.exec B.bytes B.returns (atoms_spec (ws := wd) B.pre) (findClass_of_methodNamed B.named) B.notSynchronized ((name_of_methodNamed B.named B.method).1.trans hyn) hml hP hK hD va_S.rf hA _ hl
section RV
variable {p : Program} {l : Launch} {e : Env} {R : Room} {s : State} {m : MethodId} {args : Array Value} {below : List Frame} {meth : Method} {c : Code} {H : Heap} {locs : List Loc} {cells slots : Nat} {Q : State → Prop}
variable {cc : ByteArray} {pc : Nat} {ls : Array Slot} {rest : List Value} {D : va_G} {cl : List vw_C} {A : Nat → Prop} {tys : List (ClassId × FieldType)} {ws : va_W}
theorem mk_vret {post : va_W → Prop} {mc ms : Nat} (hx : p.tables.exec = Jvm.exec) (hb : c.code = cc) (hr : meth.sig.returnType = none) (hlocks : meth.locks = false) (hP : va_P D cl ws H) (hK : va_K D cl tys s) (hD : va_D A ws) (hS : va_S A s.heap H locs) (hp : post ws) (hdg : decode cc pc = .ok (.return_, 1)) : W p l e R s m args below meth c H locs mc ms (MQ below (va_Qv post (mu_B D cl tys A) A) args s mc ms A) (F0 m pc ls []) := W.vret hx hb hr (fun t ht hW => ⟨⟨ws, rfl, hp, by rw [ht]; exact hP, va_K.moved hW.alike hK, hD⟩, hS.F ht⟩) hS.2.2 hdg
theorem mk_callv {post : va_W → Prop} {st0 : List Value} {a : Array Value} {H0 : Heap} {mc ms : Nat} (hr : va_Run p l e R s m args below meth c H locs cells slots mc ms (F0 m pc ls st0) rest (va_Qv post (mu_B D cl tys A) A a) A) (hS : va_S A H0 H locs)
    (kk : ∀ (w : va_W) (H1 : Heap) (locs1 : List Loc), post w → va_P D cl w H1 → va_D A w → va_S A H0 H1 locs1 → W p l e R s m args below meth c H1 locs1 (cells + mc) (slots + ms) Q (F0 m (pc + 3) ls rest)) : W p l e R s m args below meth c H locs cells slots Q (F0 m pc ls st0) := by
  refine va_callv hr hS (fun _ _ h => h) (fun _ h => h) (fun u t H1 locs1 ht hvm hw hB hz1 hk1 hS1 => ?_)
  obtain ⟨hP, hK, hD⟩ := hB
  rw [ht] at hP
  exact kk u H1 locs1 hw hP hD hS1
end RV
end
section
/-! what the rows and the draft are, as lists -/
def sp_sl (f : Nat → Int32) (a n : Nat) : List Int32 := (List.range n).map (fun i => f (a + i))
theorem sp_len (f : Nat → Int32) (a n : Nat) : (sp_sl f a n).length = n := by simp [sp_sl]
theorem sp_get {f : Nat → Int32} {a n i : Nat} (h : i < n) : (sp_sl f a n)[i]? = some (f (a + i)) := by
  simp [sp_sl, h]
theorem sp_ext {f g : Nat → Int32} {a b n : Nat} (h : ∀ i, i < n → f (a + i) = g (b + i)) : sp_sl f a n = sp_sl g b n := by
  unfold sp_sl
  apply List.map_congr_left
  intro i hi
  exact h i (List.mem_range.mp hi)
theorem sp_at {f g : Nat → Int32} {a b n : Nat} (h : sp_sl f a n = sp_sl g b n) : ∀ i, i < n → f (a + i) = g (b + i) := by
  intro i hi
  have h1 : (sp_sl f a n)[i]? = (sp_sl g b n)[i]? := by rw [h]
  rw [sp_get hi, sp_get hi] at h1
  exact Option.some.inj h1
theorem sp_cons (f : Nat → Int32) (a n : Nat) : sp_sl f a (n + 1) = f a :: sp_sl f (a + 1) n := by
  unfold sp_sl
  rw [List.range_succ_eq_map, List.map_cons, List.map_map]
  congr 1
  apply List.map_congr_left
  intro i _
  show f (a + (i + 1)) = f (a + 1 + i)
  congr 1
  omega
theorem sp_snoc (f : Nat → Int32) (a n : Nat) : sp_sl f a (n + 1) = sp_sl f a n ++ [f (a + n)] := by
  unfold sp_sl
  rw [List.range_succ, List.map_append]
  rfl
theorem sp_app (f : Nat → Int32) (a n k : Nat) : sp_sl f a (n + k) = sp_sl f a n ++ sp_sl f (a + n) k := by
  induction k with
  | zero => simp [sp_sl]
  | succ k ih =>
    rw [← Nat.add_assoc, sp_snoc, ih, sp_snoc, List.append_assoc, Nat.add_assoc]
theorem sp_zero (f : Nat → Int32) (a : Nat) : sp_sl f a 0 = [] := rfl
theorem sp_take (f : Nat → Int32) (a n k : Nat) (h : k ≤ n) : (sp_sl f a n).take k = sp_sl f a k := by
  obtain ⟨j, rfl⟩ : ∃ j, n = k + j := ⟨n - k, by omega⟩
  rw [sp_app, List.take_append_of_le_length (by rw [sp_len]; exact Nat.le_refl _), List.take_of_length_le (by rw [sp_len]; exact Nat.le_refl _)]
theorem sp_drop (f : Nat → Int32) (a n k : Nat) (h : k ≤ n) : (sp_sl f a n).drop k = sp_sl f (a + k) (n - k) := by
  obtain ⟨j, rfl⟩ : ∃ j, n = k + j := ⟨n - k, by omega⟩
  rw [sp_app, List.drop_append_of_le_length (by rw [sp_len]; exact Nat.le_refl _), List.drop_of_length_le (by rw [sp_len]; exact Nat.le_refl _), List.nil_append]
  congr 1
  omega
/-- the number of the first row that is d, from number k on -/
def sp_fd (d : List Int32) : List (List Int32) → Nat → Option Nat
  | [], _ => none
  | r :: rs, k => if r = d then some k else sp_fd d rs (k + 1)
def sp_an (o : Option Nat) : Int32 := match o with
  | some k => nI k
  | none => -1
/-- the order of rows -/
def sp_cmp : List Int32 → List Int32 → Int32
  | [], [] => 0
  | [], _ :: _ => -1
  | _ :: _, [] => 1
  | x :: xs, y :: ys => if x = y then sp_cmp xs ys else if x < y then -1 else 1
/-- the places of the rows: S k is where row k begins -/
def cn_S (st : Nat → Int32) (rc : Nat) (S : Nat → Nat) : Prop := S 1 = 0 ∧ (∀ k, 1 ≤ k → k ≤ rc + 1 → st k = nI (S k)) ∧ (∀ k, 1 ≤ k → k ≤ rc → S k ≤ S (k + 1)) ∧ S (rc + 1) ≤ 20000 ∧ rc ≤ 3000
theorem cn_le {st : Nat → Int32} {rc : Nat} {S : Nat → Nat} (h : cn_S st rc S) : ∀ d k, 1 ≤ k → k + d ≤ rc + 1 → S k ≤ S (k + d) := by
  intro d
  induction d with
  | zero => intro k _ _; exact Nat.le_refl _
  | succ d ih =>
    intro k h1 h2
    exact Nat.le_trans (ih k h1 (by omega)) (h.2.2.1 (k + d) (by omega) (by omega))
theorem cn_mono {st : Nat → Int32} {rc : Nat} {S : Nat → Nat} (h : cn_S st rc S) {j k : Nat} (h1 : 1 ≤ j) (h2 : j ≤ k) (h3 : k ≤ rc + 1) : S j ≤ S k := by
  have := cn_le h (k - j) j h1 (by omega)
  rwa [show j + (k - j) = k by omega] at this
theorem cn_top {st : Nat → Int32} {rc : Nat} {S : Nat → Nat} (h : cn_S st rc S) {k : Nat} (h1 : 1 ≤ k) (h3 : k ≤ rc + 1) : S k ≤ 20000 := Nat.le_trans (cn_mono h h1 h3 (Nat.le_refl _)) h.2.2.2.1
def cn_row (ch : Nat → Int32) (S : Nat → Nat) (k : Nat) : List Int32 := sp_sl ch (S k) (S (k + 1) - S k)
/-- the rows k .. k + m - 1 -/
def cn_rows (ch : Nat → Int32) (S : Nat → Nat) (k m : Nat) : List (List Int32) := (List.range m).map (fun i => cn_row ch S (k + i))
theorem cn_rows_0 (ch : Nat → Int32) (S : Nat → Nat) (k : Nat) : cn_rows ch S k 0 = [] := rfl
theorem cn_rows_cons (ch : Nat → Int32) (S : Nat → Nat) (k m : Nat) : cn_rows ch S k (m + 1) = cn_row ch S k :: cn_rows ch S (k + 1) m := by
  unfold cn_rows
  rw [List.range_succ_eq_map, List.map_cons, List.map_map]
  congr 1
  apply List.map_congr_left
  intro i _
  show cn_row ch S (k + (i + 1)) = cn_row ch S (k + 1 + i)
  congr 1
  omega
theorem cn_rows_snoc (ch : Nat → Int32) (S : Nat → Nat) (k m : Nat) : cn_rows ch S k (m + 1) = cn_rows ch S k m ++ [cn_row ch S (k + m)] := by
  unfold cn_rows
  rw [List.range_succ, List.map_append]
  rfl
theorem cn_rows_len (ch : Nat → Int32) (S : Nat → Nat) (k m : Nat) : (cn_rows ch S k m).length = m := by simp [cn_rows]
theorem cn_rows_get {ch : Nat → Int32} {S : Nat → Nat} {k m i : Nat} (h : i < m) : (cn_rows ch S k m)[i]? = some (cn_row ch S (k + i)) := by
  simp [cn_rows, h]
theorem cn_rows_ext {ch ch' : Nat → Int32} {S S' : Nat → Nat} {k m : Nat} (h : ∀ i, i < m → cn_row ch S (k + i) = cn_row ch' S' (k + i)) : cn_rows ch S k m = cn_rows ch' S' k m := by
  unfold cn_rows
  apply List.map_congr_left
  intro i hi
  exact h i (List.mem_range.mp hi)
theorem sp_ne1 {k : Nat} (h : k < 2 ^ 31) : ¬ nI k = -1 := by
  intro q
  have h1 := congrArg Int32.toInt q
  rw [nI_toInt h] at h1
  have h2 : (-1 : Int32).toInt = -1 := by decide
  omega
/-- k is the number of a row -/
def cn_is (rc : Nat) (k : Int32) : Prop := ∃ j, 1 ≤ j ∧ j ≤ rc ∧ k = nI j
theorem cn_is_lo {rc : Nat} {k : Int32} (hrc : rc ≤ 3000) (h : k < nI 1) : ¬ cn_is rc k := by
  rintro ⟨j, h1, h2, rfl⟩
  exact nI_nlt h1 (by omega) h
theorem cn_is_hi {rc : Nat} {k : Int32} (hrc : rc ≤ 3000) (h : nI rc < k) : ¬ cn_is rc k := by
  rintro ⟨j, h1, h2, rfl⟩
  exact nI_nlt h2 (by omega) h
theorem cn_is_yes {rc : Nat} {k : Int32} (hrc : rc ≤ 3000) (h1 : ¬ k < nI 1) (h2 : ¬ nI rc < k) : cn_is rc k := by
  have h0 : ¬ k < 0 := by
    intro q
    apply h1
    rw [Int32.lt_iff_toInt_lt] at q ⊢
    have e1 : (nI 1).toInt = 1 := by decide
    have e0 : (0 : Int32).toInt = 0 := by decide
    omega
  obtain ⟨j, hj, rfl⟩ := nI_of h0
  refine ⟨j, ?_, ?_, rfl⟩
  · rcases Nat.lt_or_ge j 1 with q | q
    · exact absurd (nI_lt q (by decide)) h1
    · exact q
  · rcases Nat.lt_or_ge rc j with q | q
    · exact absurd (nI_lt q hj) h2
    · exact q
theorem cn_fd_hit {F : Option Nat} {d : List Int32} {ch : Nat → Int32} {S : Nat → Nat} {k rc : Nat} (hk : k ≤ rc) (hinv : F = sp_fd d (cn_rows ch S k (rc + 1 - k)) k) (h : cn_row ch S k = d) : nI k = sp_an F := by
  rw [hinv, show rc + 1 - k = (rc - k) + 1 by omega, cn_rows_cons, sp_fd, if_pos h]
  rfl
theorem cn_fd_miss {F : Option Nat} {d : List Int32} {ch : Nat → Int32} {S : Nat → Nat} {k rc : Nat} (hk : k ≤ rc) (hinv : F = sp_fd d (cn_rows ch S k (rc + 1 - k)) k) (h : ¬ cn_row ch S k = d) : F = sp_fd d (cn_rows ch S (k + 1) (rc + 1 - (k + 1))) (k + 1) := by
  rw [hinv, show rc + 1 - k = (rc - k) + 1 by omega, cn_rows_cons, sp_fd, if_neg h, show rc + 1 - (k + 1) = rc - k by omega]
theorem cn_fd_end {F : Option Nat} {d : List Int32} {ch : Nat → Int32} {S : Nat → Nat} {k rc : Nat} (hk : rc < k) (hinv : F = sp_fd d (cn_rows ch S k (rc + 1 - k)) k) : (-1 : Int32) = sp_an F := by
  rw [hinv, show rc + 1 - k = 0 by omega, cn_rows_0]
  rfl
theorem cn_cmp_diff {f : Nat → Int32} : ∀ (i a b n m : Nat), (∀ x, x < i → f (a + x) = f (b + x)) → i < n → i < m → ¬ f (a + i) = f (b + i) → sp_cmp (sp_sl f a n) (sp_sl f b m) = if f (a + i) < f (b + i) then -1 else 1 := by
  intro i
  induction i with
  | zero =>
    intro a b n m _ hn hm hne
    obtain ⟨n, rfl⟩ : ∃ z, n = z + 1 := ⟨n - 1, by omega⟩
    obtain ⟨m, rfl⟩ : ∃ z, m = z + 1 := ⟨m - 1, by omega⟩
    have hne : ¬ f a = f b := hne
    rw [sp_cons, sp_cons, sp_cmp, if_neg hne]
    rfl
  | succ i ih =>
    intro a b n m h hn hm hne
    obtain ⟨n, rfl⟩ : ∃ z, n = z + 1 := ⟨n - 1, by omega⟩
    obtain ⟨m, rfl⟩ : ∃ z, m = z + 1 := ⟨m - 1, by omega⟩
    have h0 : f a = f b := h 0 (by omega)
    rw [sp_cons, sp_cons, sp_cmp, if_pos h0]
    have e1 : ∀ z c : Nat, c + (z + 1) = c + 1 + z := fun z c => by omega
    rw [ih (a + 1) (b + 1) n m (fun x hx => by rw [← e1, ← e1]; exact h (x + 1) (by omega)) (by omega) (by omega) (by rw [← e1, ← e1]; exact hne), ← e1, ← e1]
theorem cn_cmp_end {f : Nat → Int32} : ∀ (n m a b : Nat), (∀ x, x < n → x < m → f (a + x) = f (b + x)) → sp_cmp (sp_sl f a n) (sp_sl f b m) = if n = m then 0 else if n < m then -1 else 1 := by
  intro n
  induction n with
  | zero =>
    intro m a b _
    cases m with
    | zero => rfl
    | succ m => rw [sp_cons]; rw [if_neg (by omega), if_pos (by omega)]; rfl
  | succ n ih =>
    intro m a b h
    cases m with
    | zero => rw [sp_cons, if_neg (by omega), if_neg (by omega)]; rfl
    | succ m =>
      have h0 : f a = f b := h 0 (by omega) (by omega)
      have e1 : ∀ z c : Nat, c + (z + 1) = c + 1 + z := fun z c => by omega
      rw [sp_cons, sp_cons, sp_cmp, if_pos h0, ih m (a + 1) (b + 1) (fun x hx hy => by rw [← e1, ← e1]; exact h (x + 1) (by omega) (by omega))]
      by_cases q : n = m
      · rw [if_pos q, if_pos (show n + 1 = m + 1 by omega)]
      · rw [if_neg q, if_neg (show ¬ n + 1 = m + 1 by omega)]
        by_cases q2 : n < m
        · rw [if_pos q2, if_pos (show n + 1 < m + 1 by omega)]
        · rw [if_neg q2, if_neg (show ¬ n + 1 < m + 1 by omega)]
theorem sp_min {x y : Nat} (hx : x < 2 ^ 31) (hy : y < 2 ^ 31) : (if nI y < nI x then nI y else nI x) = nI (min x y) := by
  by_cases h : y < x
  · rw [if_pos (nI_lt h hx)]
    congr 1
    omega
  · rw [if_neg (nI_nlt (by omega) hy)]
    congr 1
    omega
def sp_sum : List (List Int32) → Nat
  | [] => 0
  | r :: rs => r.length + sp_sum rs
theorem sp_sum_app (a b : List (List Int32)) : sp_sum (a ++ b) = sp_sum a + sp_sum b := by
  induction a with
  | nil => simp [sp_sum]
  | cons r rs ih => simp [sp_sum, ih]; omega
/-- the rows behind number() or part(), and the answer -/
def sp_numberOf (rows : List (List Int32)) (d : List Int32) : List (List Int32) × Int32 := match sp_fd d rows 1 with
  | some k => (rows, nI k)
  | none => if rows.length < 3000 ∧ d.length + sp_sum rows ≤ 20000 then (rows ++ [d], nI (rows.length + 1)) else (rows, -1)
theorem cn_sum {st : Nat → Int32} {ch : Nat → Int32} {rc : Nat} {S : Nat → Nat} (h : cn_S st rc S) : ∀ m, m ≤ rc → sp_sum (cn_rows ch S 1 m) = S (m + 1) := by
  intro m
  induction m with
  | zero => intro _; rw [cn_rows_0]; exact h.1.symm
  | succ m ih =>
    intro hm
    rw [cn_rows_snoc, sp_sum_app, ih (by omega)]
    have h1 := h.2.2.1 (m + 1) (by omega) hm
    simp only [sp_sum, cn_row, sp_len]
    rw [show 1 + m = m + 1 by omega]
    omega
theorem sp_fd_lt {d : List Int32} : ∀ (rows : List (List Int32)) (k j : Nat), sp_fd d rows k = some j → j < k + rows.length := by
  intro rows
  induction rows with
  | nil => intro k j h; simp [sp_fd] at h
  | cons r rs ih =>
    intro k j h
    rw [sp_fd] at h
    by_cases q : r = d
    · rw [if_pos q] at h; cases h; simp
    · rw [if_neg q] at h
      have := ih (k + 1) j h
      simp only [List.length_cons]; omega
theorem cn_nb_old {rows : List (List Int32)} {d : List Int32} {r : Int32} (h : r = sp_an (sp_fd d rows 1)) (hr : ¬ r = -1) : sp_numberOf rows d = (rows, r) := by
  unfold sp_numberOf
  cases hf : sp_fd d rows 1 with
  | none => rw [hf] at h; exact absurd h hr
  | some k => rw [hf] at h; rw [h]; rfl
theorem cn_an_none {rows : List (List Int32)} {d : List Int32} (hl : rows.length ≤ 3000) (h : sp_an (sp_fd d rows 1) = -1) : sp_fd d rows 1 = none := by
  cases hf : sp_fd d rows 1 with
  | none => rfl
  | some k =>
    rw [hf] at h
    have := sp_fd_lt rows 1 k hf
    exact absurd h (sp_ne1 (by omega))
theorem cn_nb_full {ch st : Nat → Int32} {rc : Nat} {S : Nat → Nat} {d : List Int32} {n2 : Nat} (hR : cn_S st rc S) (h : sp_an (sp_fd d (cn_rows ch S 1 rc) 1) = -1) (hd : ¬ (rc < 3000 ∧ n2 + S (rc + 1) ≤ 20000)) (hn : d.length = n2 := by exact sp_len _ _ _) : sp_numberOf (cn_rows ch S 1 rc) d = (cn_rows ch S 1 rc, -1) := by
  have hl := cn_rows_len ch S 1 rc
  have h0 := cn_an_none (by rw [hl]; exact hR.2.2.2.2) h
  unfold sp_numberOf
  rw [h0]
  show (if _ then _ else _) = _
  rw [if_neg (by rw [hl, cn_sum hR rc (Nat.le_refl _), hn]; exact hd)]
/-- the places of the rows with one more -/
def cn_S1 (S : Nat → Nat) (rc n2 : Nat) : Nat → Nat := fun k => if k = rc + 1 + 1 then S (rc + 1) + n2 else S k
theorem cn_S_add {st : Nat → Int32} {rc : Nat} {S : Nat → Nat} {n2 : Nat} (hR : cn_S st rc S) (h1 : rc < 3000) (h2 : n2 + S (rc + 1) ≤ 20000) : cn_S (upd st (rc + 1 + 1) (nI (S (rc + 1) + n2))) (rc + 1) (cn_S1 S rc n2) := by
  refine ⟨?_, ?_, ?_, ?_, by omega⟩
  · show (if 1 = rc + 1 + 1 then _ else S 1) = 0
    rw [if_neg (by omega)]; exact hR.1
  · intro k hk1 hk2
    by_cases q : k = rc + 1 + 1
    · subst q; rw [pk_us]; show _ = nI (if _ then _ else _); rw [if_pos rfl]
    · rw [pk_un q]; show _ = nI (if _ then _ else _); rw [if_neg q]; exact hR.2.1 k hk1 (by omega)
  · intro k hk1 hk2
    show (if k = rc + 1 + 1 then _ else S k) ≤ (if k + 1 = rc + 1 + 1 then _ else S (k + 1))
    rw [if_neg (by omega)]
    by_cases q : k + 1 = rc + 1 + 1
    · rw [if_pos q, show k = rc + 1 by omega]; omega
    · rw [if_neg q]; exact hR.2.2.1 k hk1 (by omega)
  · show (if rc + 1 + 1 = rc + 1 + 1 then _ else _) ≤ 20000
    rw [if_pos rfl]; omega
theorem cn_nb_new {ch st f : Nat → Int32} {rc : Nat} {S : Nat → Nat} {b0 n2 : Nat} (hR : cn_S st rc S) (h : sp_an (sp_fd (sp_sl f b0 n2) (cn_rows ch S 1 rc) 1) = -1) (h1 : rc < 3000) (h2 : n2 + S (rc + 1) ≤ 20000) : sp_numberOf (cn_rows ch S 1 rc) (sp_sl f b0 n2) = (cn_rows (va_cpy f ch b0 (S (rc + 1)) n2) (cn_S1 S rc n2) 1 (rc + 1), nI (rc + 1)) := by
  have hl := cn_rows_len ch S 1 rc
  have h0 := cn_an_none (by rw [hl]; exact hR.2.2.2.2) h
  unfold sp_numberOf
  rw [h0]
  show (if _ then _ else _) = _
  rw [if_pos (by rw [hl, cn_sum hR rc (Nat.le_refl _), sp_len]; exact ⟨h1, h2⟩), hl, cn_rows_snoc]
  have eA : cn_rows ch S 1 rc = cn_rows (va_cpy f ch b0 (S (rc + 1)) n2) (cn_S1 S rc n2) 1 rc := by
    apply cn_rows_ext
    intro i hi
    unfold cn_row cn_S1
    rw [if_neg (by omega), if_neg (by omega)]
    apply sp_ext
    intro x hx
    have := cn_mono hR (j := 1 + i + 1) (k := rc + 1) (by omega) (by omega) (Nat.le_refl _)
    rw [pk_cpy_out (Or.inl (by omega))]
  have eB : sp_sl f b0 n2 = cn_row (va_cpy f ch b0 (S (rc + 1)) n2) (cn_S1 S rc n2) (1 + rc) := by
    unfold cn_row cn_S1
    rw [if_neg (by omega), if_pos (by omega), show 1 + rc = rc + 1 by omega, show S (rc + 1) + n2 - S (rc + 1) = n2 by omega]
    apply sp_ext
    intro x hx
    rw [pk_cpy_in (by omega) (by omega)]
    congr 1
    omega
  rw [← eA, ← eB]
def sp_row (rows : List (List Int32)) (k : Int32) : Option (List Int32) := if k < 1 then none else rows[k.toNatClampNeg - 1]?
theorem cn_row_yes {ch st : Nat → Int32} {rc : Nat} {S : Nat → Nat} {k : Nat} (hR : cn_S st rc S) (h1 : 1 ≤ k) (h2 : k ≤ rc) : sp_row (cn_rows ch S 1 rc) (nI k) = some (cn_row ch S k) := by
  have h3 := hR.2.2.2.2
  unfold sp_row
  have h4 : ¬ nI k < (1 : Int32) := nI_nlt (b := 1) h1 (by omega)
  rw [if_neg h4, nI_clamp (by omega), cn_rows_get (by omega)]
  congr 2
  omega
theorem cn_row_no {ch st : Nat → Int32} {rc : Nat} {S : Nat → Nat} {k : Int32} (hR : cn_S st rc S) (h : ¬ cn_is rc k) : sp_row (cn_rows ch S 1 rc) k = none := by
  have h3 := hR.2.2.2.2
  unfold sp_row
  by_cases q : k < 1
  · rw [if_pos q]
  · rw [if_neg q]
    have h0 : ¬ k < 0 := by
      intro z
      apply q
      rw [Int32.lt_iff_toInt_lt] at z ⊢
      have e1 : (1 : Int32).toInt = 1 := by decide
      have e0 : (0 : Int32).toInt = 0 := by decide
      omega
    obtain ⟨j, hj, rfl⟩ := nI_of h0
    rw [nI_clamp hj]
    apply List.getElem?_eq_none
    rw [cn_rows_len]
    rcases Nat.lt_or_ge (j - 1) rc with z | z
    · exfalso
      have hj1 : 1 ≤ j := by
        rcases Nat.lt_or_ge j 1 with y | y
        · exact absurd (show nI j < nI 1 from nI_lt y (by decide)) q
        · exact y
      exact h ⟨j, hj1, by omega, rfl⟩
    · exact z
def sp_length (rows : List (List Int32)) (k : Int32) : Int32 := match sp_row rows k with
  | some r => nI r.length
  | none => -1
def sp_sign (rows : List (List Int32)) (k i : Int32) : Int32 := match sp_row rows k with
  | some r => if i < 0 then -1 else r.getD i.toNatClampNeg (-1)
  | none => -1
theorem cn_sg_hi {ch : Nat → Int32} {S : Nat → Nat} {k x : Nat} (hx : x < 2 ^ 31) (h : S (k + 1) - S k ≤ x) : (-1 : Int32) = if nI x < 0 then -1 else (cn_row ch S k).getD (nI x).toNatClampNeg (-1) := by
  rw [if_neg (nI_pos hx), nI_clamp hx, List.getD_eq_getElem?_getD, List.getElem?_eq_none (by rw [cn_row, sp_len]; exact h)]
  rfl
theorem cn_sg_in {ch : Nat → Int32} {S : Nat → Nat} {k x : Nat} (hx : x < 2 ^ 31) (h : x < S (k + 1) - S k) : ch (S k + x) = if nI x < 0 then -1 else (cn_row ch S k).getD (nI x).toNatClampNeg (-1) := by
  rw [if_neg (nI_pos hx), nI_clamp hx, List.getD_eq_getElem?_getD, cn_row, sp_get h]
  rfl
def sp_compare (rows : List (List Int32)) (a b : Int32) : Int32 := match sp_row rows a with
  | none => -2
  | some x => match sp_row rows b with
    | none => -2
    | some y => sp_cmp x y
def sp_known (rows : List (List Int32)) (d : List Int32) : Int32 := match sp_fd d rows 1 with
  | some _ => 1
  | none => 0
theorem cn_known_1 {rows : List (List Int32)} {d : List Int32} {r : Int32} (hr : ¬ r = -1) (h : r = sp_an (sp_fd d rows 1)) : nI 1 = sp_known rows d := by
  unfold sp_known
  cases hf : sp_fd d rows 1 with
  | none => rw [hf] at h; exact absurd h hr
  | some k => rfl
theorem cn_known_0 {ch st : Nat → Int32} {rc : Nat} {S : Nat → Nat} {d : List Int32} {r : Int32} (hR : cn_S st rc S) (hr : r = -1) (h : r = sp_an (sp_fd d (cn_rows ch S 1 rc) 1)) : nI 0 = sp_known (cn_rows ch S 1 rc) d := by
  have h0 := cn_an_none (by rw [cn_rows_len]; exact hR.2.2.2.2) (h.symm.trans hr)
  unfold sp_known
  rw [h0]
  rfl
def sp_cut (d : List Int32) (k : Int32) : List Int32 × Int32 := if k < 0 ∨ nI d.length < k then (d, -1) else (d.take k.toNatClampNeg, nI d.length)
def sp_take_ (rows : List (List Int32)) (d : List Int32) (k : Int32) : List Int32 × Int32 := match sp_row rows k with
  | none => (d, -1)
  | some r => if 2000 < d.length + r.length then (d, -1) else (d ++ r, nI (d.length + r.length))
def sp_part (rows : List (List Int32)) (k i n : Int32) : List (List Int32) × Int32 := match sp_row rows k with
  | none => (rows, -1)
  | some r => if i < 0 ∨ nI r.length < i ∨ n < 0 ∨ nI (r.length - i.toNatClampNeg) < n then (rows, -1) else sp_numberOf rows ((r.drop i.toNatClampNeg).take n.toNatClampNeg)
def sp_write (d : List Int32) (c many : Int32) : List Int32 × Int32 := if many < 0 ∨ nI 500 < many ∨ c < 0 ∨ nI (1114111 - many.toNatClampNeg) < c ∨ 2000 < d.length + many.toNatClampNeg + 1 then (d, -1) else (d ++ sp_sl (fun i => nI (c.toNatClampNeg + i)) 0 (many.toNatClampNeg + 1), nI (d.length + many.toNatClampNeg + 1))
theorem cn_not_lt {a b : Nat} (h : a ≤ b) (hb : b < 2 ^ 31) : ¬ nI b < nI a := nI_nlt h hb
theorem cn_cut_no {d : List Int32} {k : Int32} (h : k < 0 ∨ nI d.length < k) : sp_cut d k = (d, -1) := if_pos h
theorem cn_cut_yes {d : List Int32} {x : Nat} (h : x ≤ d.length) (hl : d.length < 2 ^ 31) : sp_cut d (nI x) = (d.take x, nI d.length) := by
  unfold sp_cut
  rw [if_neg (fun z => z.elim (fun q => nI_pos (by omega) q) (fun q => nI_nlt h hl q)), nI_clamp (by omega)]
theorem cn_S_0 {st : Nat → Int32} {rc : Nat} {S : Nat → Nat} (h : cn_S st rc S) : cn_S st 0 S := by
  refine ⟨h.1, fun k h1 h2 => h.2.1 k h1 (by omega), fun k h1 h2 => absurd h1 (by omega), ?_, by omega⟩
  show S 1 ≤ 20000
  rw [h.1]
  omega
theorem cn_tk {dr ch : Nat → Int32} {S : Nat → Nat} {n k : Nat} : sp_sl dr 0 n ++ cn_row ch S k = sp_sl (va_cpy ch dr (S k) n (S (k + 1) - S k)) 0 (n + (S (k + 1) - S k)) := by
  rw [sp_app]
  congr 1
  · apply sp_ext
    intro i hi
    rw [pk_cpy_out (Or.inl (by omega))]
  · unfold cn_row
    apply sp_ext
    intro i hi
    rw [pk_cpy_in (by omega) (by omega)]
    congr 1
    omega
theorem cn_pt_no {ch : Nat → Int32} {S : Nat → Nat} {k x y : Nat} (h1 : ¬ nI x < 0) (h2 : ¬ nI y < 0) (hx : x < 2 ^ 31) (hy : y < 2 ^ 31) (h3 : x ≤ S (k + 1) - S k) (h4 : y ≤ S (k + 1) - S k - x) (h5 : S (k + 1) - S k < 2 ^ 31) : ¬ (nI x < 0 ∨ nI (cn_row ch S k).length < nI x ∨ nI y < 0 ∨ nI ((cn_row ch S k).length - (nI x).toNatClampNeg) < nI y) := by
  rw [cn_row, sp_len, nI_clamp hx]
  rintro (q | q | q | q)
  · exact h1 q
  · exact nI_nlt h3 h5 q
  · exact h2 q
  · exact nI_nlt h4 (by omega) q
theorem cn_pt_row {ch : Nat → Int32} {S : Nat → Nat} {k x y : Nat} (hx : x < 2 ^ 31) (hy : y < 2 ^ 31) (h3 : x ≤ S (k + 1) - S k) (h4 : y ≤ S (k + 1) - S k - x) : ((cn_row ch S k).drop (nI x).toNatClampNeg).take (nI y).toNatClampNeg = sp_sl ch (S k + x) y := by
  rw [nI_clamp hx, nI_clamp hy, cn_row, sp_drop _ _ _ _ h3, sp_take _ _ _ _ h4]
theorem cn_wr_no {d : List Int32} {c many : Int32} (h : many < 0 ∨ nI 500 < many ∨ c < 0 ∨ nI (1114111 - many.toNatClampNeg) < c ∨ 2000 < d.length + many.toNatClampNeg + 1) : sp_write d c many = (d, -1) := if_pos h
theorem cn_wr_yes {dr f : Nat → Int32} {n x y : Nat} (h1 : ¬ nI y < 0) (h2 : ¬ nI x < 0) (h3 : y ≤ 500) (h4 : x ≤ 1114111 - y) (h5 : n + y + 1 ≤ 2000) (i1 : ∀ z, z < n → f z = dr z) (i2 : ∀ z, z < y + 1 → f (n + z) = nI (x + z)) : sp_write (sp_sl dr 0 n) (nI x) (nI y) = (sp_sl f 0 (n + (y + 1)), nI (n + (y + 1))) := by
  have ex : (nI x).toNatClampNeg = x := nI_clamp (by omega)
  have ey : (nI y).toNatClampNeg = y := nI_clamp (by omega)
  unfold sp_write
  rw [ex, ey, sp_len, if_neg (by
    rintro (q | q | q | q | q)
    · exact h1 q
    · exact nI_nlt h3 (by decide) q
    · exact h2 q
    · exact nI_nlt h4 (by omega) q
    · omega)]
  rw [sp_app f 0 n (y + 1)]
  congr 2
  · apply sp_ext
    intro i hi
    rw [Nat.zero_add]
    exact (i1 i hi).symm
  · apply sp_ext
    intro i hi
    rw [Nat.zero_add, Nat.zero_add]
    exact (i2 i hi).symm
theorem sp_nI0 {b : Nat} (h : b < 2 ^ 31) (q : nI b = 0) : b = 0 := (nI_eq h (by decide)).mp (q.trans nI_0.symm)
/-- the number of the least row greater than r: the rows still to be looked at, the number of their first, the best so far -/
def sp_nx (rows : List (List Int32)) (r : List Int32) : List (List Int32) → Nat → Nat → Nat
  | [], _, b => b
  | o :: os, k, b => sp_nx rows r os (k + 1) (if ¬ sp_cmp o r ≤ 0 ∧ (b = 0 ∨ ¬ 0 ≤ sp_cmp o (rows.getD (b - 1) [])) then k else b)
def sp_next (rows : List (List Int32)) (k : Int32) : Int32 := match sp_row rows k with
  | none => -1
  | some r => nI (sp_nx rows r rows 1 0)
section NX
variable {F : Nat} {r : List Int32} {ch : Nat → Int32} {S : Nat → Nat} {o b rc : Nat} {rows : List (List Int32)}
theorem cn_nx_end (hk : rc < o) (hinv : F = sp_nx rows r (cn_rows ch S o (rc + 1 - o)) o b) : F = b := by
  rw [hinv, show rc + 1 - o = 0 by omega, cn_rows_0]
  rfl
theorem cn_nx_st (hk : o ≤ rc) (hinv : F = sp_nx rows r (cn_rows ch S o (rc + 1 - o)) o b) : F = sp_nx rows r (cn_rows ch S (o + 1) (rc + 1 - (o + 1))) (o + 1) (if ¬ sp_cmp (cn_row ch S o) r ≤ 0 ∧ (b = 0 ∨ ¬ 0 ≤ sp_cmp (cn_row ch S o) (rows.getD (b - 1) [])) then o else b) := by
  rw [hinv, show rc + 1 - o = (rc - o) + 1 by omega, cn_rows_cons, sp_nx, show rc + 1 - (o + 1) = rc - o by omega]
theorem cn_rows_d (h1 : 1 ≤ b) (h2 : b ≤ rc) : (cn_rows ch S 1 rc).getD (b - 1) [] = cn_row ch S b := by
  rw [List.getD_eq_getElem?_getD, cn_rows_get (by omega), show 1 + (b - 1) = b by omega]
  rfl
theorem cn_nx_a (hk : o ≤ rc) (hinv : F = sp_nx rows r (cn_rows ch S o (rc + 1 - o)) o b) (h : sp_cmp (cn_row ch S o) r ≤ 0) : F = sp_nx rows r (cn_rows ch S (o + 1) (rc + 1 - (o + 1))) (o + 1) b := by
  have := cn_nx_st hk hinv
  rwa [if_neg (fun q => q.1 h)] at this
theorem cn_nx_b (hk : o ≤ rc) (hinv : F = sp_nx (cn_rows ch S 1 rc) r (cn_rows ch S o (rc + 1 - o)) o b) (h1 : 1 ≤ b) (h2 : b ≤ rc) (h : 0 ≤ sp_cmp (cn_row ch S o) (cn_row ch S b)) : F = sp_nx (cn_rows ch S 1 rc) r (cn_rows ch S (o + 1) (rc + 1 - (o + 1))) (o + 1) b := by
  have := cn_nx_st hk hinv
  rwa [if_neg (fun z => z.2.elim (fun q => by omega) (fun q => by rw [cn_rows_d h1 h2] at q; exact q h))] at this
theorem cn_nx_c (hk : o ≤ rc) (hinv : F = sp_nx rows r (cn_rows ch S o (rc + 1 - o)) o b) (h : ¬ sp_cmp (cn_row ch S o) r ≤ 0) (hb : b = 0) : F = sp_nx rows r (cn_rows ch S (o + 1) (rc + 1 - (o + 1))) (o + 1) o := by
  have := cn_nx_st hk hinv
  rwa [if_pos ⟨h, Or.inl hb⟩] at this
theorem cn_nx_d (hk : o ≤ rc) (hinv : F = sp_nx (cn_rows ch S 1 rc) r (cn_rows ch S o (rc + 1 - o)) o b) (h : ¬ sp_cmp (cn_row ch S o) r ≤ 0) (h1 : 1 ≤ b) (h2 : b ≤ rc) (h3 : ¬ 0 ≤ sp_cmp (cn_row ch S o) (cn_row ch S b)) : F = sp_nx (cn_rows ch S 1 rc) r (cn_rows ch S (o + 1) (rc + 1 - (o + 1))) (o + 1) o := by
  have := cn_nx_st hk hinv
  rwa [if_pos ⟨h, Or.inr (by rw [cn_rows_d h1 h2]; exact h3)⟩] at this
end NX
/-- the place of the first colon, or the length -/
def sp_ix : List Int32 → Nat
  | [] => 0
  | x :: xs => if x = nI 58 then 0 else sp_ix xs + 1
theorem cn_ix {f : Nat → Int32} : ∀ (q a n : Nat), q ≤ n → (∀ i, i < q → f (a + i) ≠ nI 58) → (q < n → f (a + q) = nI 58) → sp_ix (sp_sl f a n) = q := by
  intro q
  induction q with
  | zero =>
    intro a n _ _ h
    cases n with
    | zero => rfl
    | succ n => rw [sp_cons, sp_ix, if_pos (show f a = nI 58 from h (by omega))]
  | succ q ih =>
    intro a n hq h1 h2
    obtain ⟨n, rfl⟩ : ∃ z, n = z + 1 := ⟨n - 1, by omega⟩
    have e1 : ∀ z c : Nat, c + (z + 1) = c + 1 + z := fun z c => by omega
    rw [sp_cons, sp_ix, if_neg (show ¬ f a = nI 58 from h1 0 (by omega)), ih (a + 1) n (by omega) (fun i hi => by rw [← e1]; exact h1 (i + 1) (by omega)) (fun hi => by rw [← e1]; exact h2 (by omega))]
theorem cn_fc_hit {ch : Nat → Int32} {a i z : Nat} (h1 : a ≤ i) (h2 : i < z) (hinv : ∀ x, a ≤ x → x < i → ch x ≠ nI 58) (h : ch i = nI 58) : nI i = nI (a + sp_ix (sp_sl ch a (z - a))) := by
  rw [cn_ix (i - a) a (z - a) (by omega) (fun x hx => hinv (a + x) (by omega) (by omega)) (fun _ => by rw [show a + (i - a) = i by omega]; exact h)]
  congr 1
  omega
theorem cn_fc_end {ch : Nat → Int32} {a z : Nat} (h1 : a ≤ z) (hinv : ∀ x, a ≤ x → x < z → ch x ≠ nI 58) : nI z = nI (a + sp_ix (sp_sl ch a (z - a))) := by
  rw [cn_ix (z - a) a (z - a) (by omega) (fun x hx => hinv (a + x) (by omega) (by omega)) (fun q => absurd q (by omega))]
  congr 1
  omega
theorem sp_ix_le : ∀ (r : List Int32), sp_ix r ≤ r.length := by
  intro r
  induction r with
  | nil => exact Nat.le_refl _
  | cons x xs ih =>
    rw [sp_ix]
    split
    · exact Nat.zero_le _
    · simp only [List.length_cons]; omega
/-- the table of the name starts -/
def sp_tb : List Int32 := [58, 58, 65, 90, 95, 95, 97, 122, 192, 214, 216, 246, 248, 767, 880, 893, 895, 8191, 8204, 8205, 8304, 8591, 11264, 12271, 12289, 55295, 63744, 64975, 65008, 65533, 65536, 983039]
/-- is c in one of the stretches (first, last) from place i on, m of them -/
def sp_in (c : Int32) : Nat → Nat → Bool
  | _, 0 => false
  | t, m + 1 => (decide (sp_tb.getD (2 * t) 0 ≤ c) && decide (c ≤ sp_tb.getD (2 * t + 1) 0)) || sp_in c (t + 1) m
def sp_ns (c : Int32) : Bool := sp_in c 0 16
def sp_colonR (r : List Int32) : Int32 := if sp_ix r = r.length then 0 else if sp_ix (r.drop (sp_ix r + 1)) = r.length - (sp_ix r + 1) ∧ 0 < sp_ix r ∧ sp_ix r + 1 < r.length ∧ sp_ns (r.getD (sp_ix r + 1) 0) = true then nI (sp_ix r) else -1
def sp_colon (rows : List (List Int32)) (k : Int32) : Int32 := match sp_row rows k with
  | none => -2
  | some r => sp_colonR r
theorem cn_ns_yes {B : Bool} {c : Int32} {v : Nat} (hv : v < 16) (hinv : B = sp_in c v (16 - v)) (h1 : ¬ c < sp_tb.getD (2 * v) 0) (h2 : ¬ sp_tb.getD (2 * v + 1) 0 < c) : B = true := by
  rw [hinv, show 16 - v = (15 - v) + 1 by omega, sp_in]
  rw [decide_eq_true (Int32.not_lt.mp h1), decide_eq_true (Int32.not_lt.mp h2)]
  rfl
theorem cn_ns_lo {B : Bool} {c : Int32} {v : Nat} (hv : v < 16) (hinv : B = sp_in c v (16 - v)) (h1 : c < sp_tb.getD (2 * v) 0) : B = sp_in c (v + 1) (16 - (v + 1)) := by
  rw [hinv, show 16 - v = (15 - v) + 1 by omega, sp_in, show 16 - (v + 1) = 15 - v by omega, decide_eq_false (Int32.not_le.mpr h1)]
  simp
theorem cn_ns_hi {B : Bool} {c : Int32} {v : Nat} (hv : v < 16) (hinv : B = sp_in c v (16 - v)) (h1 : sp_tb.getD (2 * v + 1) 0 < c) : B = sp_in c (v + 1) (16 - (v + 1)) := by
  rw [hinv, show 16 - v = (15 - v) + 1 by omega, sp_in, show 16 - (v + 1) = 15 - v by omega, decide_eq_false (Int32.not_le.mpr h1)]
  simp
section CO
variable {ch : Nat → Int32} {S : Nat → Nat} {k P P2 : Nat}
theorem cn_co_ix (eP : P = sp_ix (sp_sl ch (S k) (S (k + 1) - S k))) : sp_ix (cn_row ch S k) = P := eP.symm
theorem cn_co_len : (cn_row ch S k).length = S (k + 1) - S k := by rw [cn_row, sp_len]
theorem cn_co_0 (eP : P = sp_ix (sp_sl ch (S k) (S (k + 1) - S k))) (h : P = S (k + 1) - S k) : nI 0 = sp_colonR (cn_row ch S k) := by
  unfold sp_colonR
  rw [cn_co_ix eP, cn_co_len, if_pos h]
  rfl
theorem cn_co_drop (h : P < S (k + 1) - S k) : (cn_row ch S k).drop (P + 1) = sp_sl ch (S k + P + 1) (S (k + 1) - (S k + P + 1)) := by
  rw [cn_row, sp_drop _ _ _ _ (by omega)]
  congr 1
  omega
theorem cn_co_at (h : P + 1 < S (k + 1) - S k) : (cn_row ch S k).getD (P + 1) 0 = ch (S k + P + 1) := by
  rw [List.getD_eq_getElem?_getD, cn_row, sp_get h]
  rfl
theorem cn_co_yes (eP : P = sp_ix (sp_sl ch (S k) (S (k + 1) - S k))) (eP2 : P2 = sp_ix (sp_sl ch (S k + P + 1) (S (k + 1) - (S k + P + 1)))) (h1 : P < S (k + 1) - S k) (h2 : P2 = S (k + 1) - (S k + P + 1)) (h3 : 0 < P) (h4 : P + 1 < S (k + 1) - S k) (hns : sp_ns (ch (S k + P + 1)) = true) : nI (S k + P - S k) = sp_colonR (cn_row ch S k) := by
  unfold sp_colonR
  rw [cn_co_ix eP, cn_co_len, if_neg (by omega), cn_co_drop h1, ← eP2, cn_co_at h4, if_pos ⟨by omega, h3, h4, hns⟩]
  congr 1
  omega
theorem cn_co_no1 (eP : P = sp_ix (sp_sl ch (S k) (S (k + 1) - S k))) (eP2 : P2 = sp_ix (sp_sl ch (S k + P + 1) (S (k + 1) - (S k + P + 1)))) (h1 : P < S (k + 1) - S k) (h2 : ¬ P2 = S (k + 1) - (S k + P + 1)) (hx : True := trivial) : (-1 : Int32) = sp_colonR (cn_row ch S k) := by
  unfold sp_colonR
  rw [cn_co_ix eP, cn_co_len, if_neg (by omega), cn_co_drop h1, ← eP2, if_neg (by rintro ⟨q, -⟩; omega)]
theorem cn_co_no2 (eP : P = sp_ix (sp_sl ch (S k) (S (k + 1) - S k))) (h1 : P < S (k + 1) - S k) (h2 : ¬ (0 < P ∧ P + 1 < S (k + 1) - S k)) (hx : True := trivial) : (-1 : Int32) = sp_colonR (cn_row ch S k) := by
  unfold sp_colonR
  rw [cn_co_ix eP, cn_co_len, if_neg (by omega), if_neg (by rintro ⟨-, q1, q2, -⟩; exact h2 ⟨q1, q2⟩)]
theorem cn_co_no3 (eP : P = sp_ix (sp_sl ch (S k) (S (k + 1) - S k))) (h1 : P + 1 < S (k + 1) - S k) (hns : sp_ns (ch (S k + P + 1)) = false) : (-1 : Int32) = sp_colonR (cn_row ch S k) := by
  unfold sp_colonR
  rw [cn_co_ix eP, cn_co_len, if_neg (by omega), cn_co_at h1, if_neg (by rintro ⟨-, -, -, q⟩; rw [hns] at q; exact Bool.noConfusion q)]
end CO
end
section
/-- a private method of a class that the tables say can be made, by its rows of tables_1 -/
def lw_okq (q : MethodName × Nat) : Prop := (q.1.cls ≠ "java/lang/invoke/MethodHandle" ∧ q.1.cls ≠ "java/lang/invoke/VarHandle") ∧ Cond.instantiable q.1.cls q.2 ∈ tables_1 ∧ Cond.privateMethod q.1 ∈ tables_1 ∧ Cond.instanceMethod q.1 ∈ tables_1
theorem lw_p0 : lw_okq (⟨"NameNumbers", "numberOf", "([III)I"⟩, 5) := ⟨⟨by decide +kernel, by decide +kernel⟩, List.mem_of_getElem? (i := 6) (by decide +kernel), List.mem_of_getElem? (i := 44) (by decide +kernel), List.mem_of_getElem? (i := 45) (by decide +kernel)⟩
theorem lw_p1 : lw_okq (⟨"NameNumbers", "find", "([III)I"⟩, 5) := ⟨⟨by decide +kernel, by decide +kernel⟩, List.mem_of_getElem? (i := 6) (by decide +kernel), List.mem_of_getElem? (i := 48) (by decide +kernel), List.mem_of_getElem? (i := 49) (by decide +kernel)⟩
theorem lw_p2 : lw_okq (⟨"NameNumbers", "lengthOf", "(I)I"⟩, 5) := ⟨⟨by decide +kernel, by decide +kernel⟩, List.mem_of_getElem? (i := 6) (by decide +kernel), List.mem_of_getElem? (i := 52) (by decide +kernel), List.mem_of_getElem? (i := 53) (by decide +kernel)⟩
theorem lw_p3 : lw_okq (⟨"NameNumbers", "isSame", "([III)Z"⟩, 5) := ⟨⟨by decide +kernel, by decide +kernel⟩, List.mem_of_getElem? (i := 6) (by decide +kernel), List.mem_of_getElem? (i := 56) (by decide +kernel), List.mem_of_getElem? (i := 57) (by decide +kernel)⟩
theorem lw_p4 : lw_okq (⟨"NameNumbers", "hasRoomFor", "(I)Z"⟩, 5) := ⟨⟨by decide +kernel, by decide +kernel⟩, List.mem_of_getElem? (i := 6) (by decide +kernel), List.mem_of_getElem? (i := 60) (by decide +kernel), List.mem_of_getElem? (i := 61) (by decide +kernel)⟩
theorem lw_p5 : lw_okq (⟨"NameNumbers", "add", "([III)I"⟩, 5) := ⟨⟨by decide +kernel, by decide +kernel⟩, List.mem_of_getElem? (i := 6) (by decide +kernel), List.mem_of_getElem? (i := 64) (by decide +kernel), List.mem_of_getElem? (i := 65) (by decide +kernel)⟩
theorem lw_p6 : lw_okq (⟨"NameNumbers", "isRow", "(I)Z"⟩, 5) := ⟨⟨by decide +kernel, by decide +kernel⟩, List.mem_of_getElem? (i := 6) (by decide +kernel), List.mem_of_getElem? (i := 79) (by decide +kernel), List.mem_of_getElem? (i := 80) (by decide +kernel)⟩
theorem lw_p7 : lw_okq (⟨"NameNumbers", "order", "(II)I"⟩, 5) := ⟨⟨by decide +kernel, by decide +kernel⟩, List.mem_of_getElem? (i := 6) (by decide +kernel), List.mem_of_getElem? (i := 99) (by decide +kernel), List.mem_of_getElem? (i := 100) (by decide +kernel)⟩
theorem lw_p8 : lw_okq (⟨"NameNumbers", "findColon", "(II)I"⟩, 5) := ⟨⟨by decide +kernel, by decide +kernel⟩, List.mem_of_getElem? (i := 6) (by decide +kernel), List.mem_of_getElem? (i := 110) (by decide +kernel), List.mem_of_getElem? (i := 111) (by decide +kernel)⟩
theorem lw_p9 : lw_okq (⟨"NameNumbersModel", "seekDraft", "()V"⟩, 9) := ⟨⟨by decide +kernel, by decide +kernel⟩, List.mem_of_getElem? (i := 131) (by decide +kernel), List.mem_of_getElem? (i := 178) (by decide +kernel), List.mem_of_getElem? (i := 179) (by decide +kernel)⟩
theorem lw_p10 : lw_okq (⟨"NameNumbersModel", "get", "()I"⟩, 9) := ⟨⟨by decide +kernel, by decide +kernel⟩, List.mem_of_getElem? (i := 131) (by decide +kernel), List.mem_of_getElem? (i := 182) (by decide +kernel), List.mem_of_getElem? (i := 183) (by decide +kernel)⟩
theorem lw_p11 : lw_okq (⟨"NameNumbersModel", "find", "()I"⟩, 9) := ⟨⟨by decide +kernel, by decide +kernel⟩, List.mem_of_getElem? (i := 131) (by decide +kernel), List.mem_of_getElem? (i := 186) (by decide +kernel), List.mem_of_getElem? (i := 187) (by decide +kernel)⟩
theorem lw_p12 : lw_okq (⟨"NameNumbersModel", "isRow", "(I)Z"⟩, 9) := ⟨⟨by decide +kernel, by decide +kernel⟩, List.mem_of_getElem? (i := 131) (by decide +kernel), List.mem_of_getElem? (i := 198) (by decide +kernel), List.mem_of_getElem? (i := 199) (by decide +kernel)⟩
theorem lw_p13 : lw_okq (⟨"NameNumbersModel", "order", "(II)I"⟩, 9) := ⟨⟨by decide +kernel, by decide +kernel⟩, List.mem_of_getElem? (i := 131) (by decide +kernel), List.mem_of_getElem? (i := 218) (by decide +kernel), List.mem_of_getElem? (i := 219) (by decide +kernel)⟩
def lw_privs_1 : List (MethodName × Nat) := [(⟨"NameNumbers", "numberOf", "([III)I"⟩, 5), (⟨"NameNumbers", "find", "([III)I"⟩, 5), (⟨"NameNumbers", "lengthOf", "(I)I"⟩, 5), (⟨"NameNumbers", "isSame", "([III)Z"⟩, 5), (⟨"NameNumbers", "hasRoomFor", "(I)Z"⟩, 5), (⟨"NameNumbers", "add", "([III)I"⟩, 5), (⟨"NameNumbers", "isRow", "(I)Z"⟩, 5), (⟨"NameNumbers", "order", "(II)I"⟩, 5), (⟨"NameNumbers", "findColon", "(II)I"⟩, 5), (⟨"NameNumbersModel", "seekDraft", "()V"⟩, 9), (⟨"NameNumbersModel", "get", "()I"⟩, 9), (⟨"NameNumbersModel", "find", "()I"⟩, 9), (⟨"NameNumbersModel", "isRow", "(I)Z"⟩, 9), (⟨"NameNumbersModel", "order", "(II)I"⟩, 9)]
theorem lw_r1 : ∀ q ∈ lw_privs_1, lw_okq q := List.forall_mem_cons.mpr ⟨lw_p0, List.forall_mem_cons.mpr ⟨lw_p1, List.forall_mem_cons.mpr ⟨lw_p2, List.forall_mem_cons.mpr ⟨lw_p3, List.forall_mem_cons.mpr ⟨lw_p4, List.forall_mem_cons.mpr ⟨lw_p5, List.forall_mem_cons.mpr ⟨lw_p6, List.forall_mem_cons.mpr ⟨lw_p7, List.forall_mem_cons.mpr ⟨lw_p8, List.forall_mem_cons.mpr ⟨lw_p9, List.forall_mem_cons.mpr ⟨lw_p10, List.forall_mem_cons.mpr ⟨lw_p11, List.forall_mem_cons.mpr ⟨lw_p12, List.forall_mem_cons.mpr ⟨lw_p13, fun _ h => absurd h List.not_mem_nil⟩⟩⟩⟩⟩⟩⟩⟩⟩⟩⟩⟩⟩⟩
def lw_privs : List (MethodName × Nat) := lw_privs_1
def lw_tbl : List Cond := k2_sels lw_privs ++ tables_1
theorem lw_privs_ok : ∀ q ∈ lw_privs, lw_okq q := lw_r1
end
section
/-! ===== BEGIN words of one list among another's, by their places ===== -/
theorem goodIn_r {big : List Cond} (ws : List Cond) (ps : List Nat) (hp : ws = ps.filterMap (fun i => big[i]?)) (h : ws.all goodWord = true) : GoodIn big ws := by
  intro w hw
  have h1 := List.all_eq_true.mp h w hw
  rw [hp] at hw
  obtain ⟨i, -, hi⟩ := List.mem_filterMap.mp hw
  have hm : w ∈ big := by first | exact List.mem_of_getElem? hi | exact List.getElem?_mem hi
  exact ⟨hm, good_of_word h1⟩
theorem goodIn_app {big a b : List Cond} (ha : GoodIn big a) (hb : GoodIn big b) : GoodIn big (a ++ b) := fun w h => (List.mem_append.mp h).elim (ha w) (hb w)
theorem goodIn_ca {big a b : List Cond} {c : Cond} (ha : GoodIn big (c :: a)) (hb : GoodIn big b) : GoodIn big (c :: (a ++ b)) := fun w h => (List.mem_cons.mp h).elim (fun e => ha w (List.mem_cons.mpr (Or.inl e))) (fun h => (List.mem_append.mp h).elim (fun h => ha w (List.mem_cons.mpr (Or.inr h))) (hb w))
theorem goodIn_sub {big ws : List Cond} (hm : ∀ w ∈ ws, w ∈ big) (h : ws.all goodWord = true) : GoodIn big ws := fun w hw => ⟨hm w hw, good_of_word (List.all_eq_true.mp h w hw)⟩
/-! ===== END ===== -/

/-! ===== BEGIN printed: names, fields, word lists, decode rows ===== -/
def RX0 : String := "NameNumbers"
def TX0 : u_T := fun k => match k with
  | 0 => ("NameNumbers", "draft", "[I", true)
  | 1 => ("NameNumbers", "draftLength", "I", false)
  | 2 => ("NameNumbers", "characters", "[I", true)
  | 3 => ("NameNumbers", "starts", "[I", true)
  | _ => ("NameNumbers", "rowCount", "I", false)
def tyX0 : Nat → FieldType := fun k => match k with
  | 0 => .array .int
  | 1 => .int
  | 2 => .array .int
  | 3 => .array .int
  | _ => .int
abbrev wsX00 : List Cond := u_ws RX0 TX0 5
theorem nmX0 : ∀ a, a < 5 → ∀ b, b < 5 → a ≠ b → (TX0 a).2.1 ≠ (TX0 b).2.1 := by decide +kernel
theorem tyX0_ok : ∀ k, k < 5 → parseFieldDescriptor (TX0 k).2.2.1 = some (tyX0 k) := by decide +kernel
abbrev cX0_init : ByteArray := prog_1_method_1_code
def yX0_init : MethodName := ⟨RX0, "<init>", "()V"⟩
abbrev cX0_write : ByteArray := prog_1_method_2_code
def yX0_write : MethodName := ⟨RX0, "write", "(II)I"⟩
abbrev cX0_cut : ByteArray := prog_1_method_3_code
def yX0_cut : MethodName := ⟨RX0, "cut", "(I)I"⟩
abbrev cX0_number : ByteArray := prog_1_method_4_code
def yX0_number : MethodName := ⟨RX0, "number", "()I"⟩
abbrev cX0_isKnown : ByteArray := prog_1_method_5_code
def yX0_isKnown : MethodName := ⟨RX0, "isKnown", "()Z"⟩
abbrev cX0_take : ByteArray := prog_1_method_6_code
def yX0_take : MethodName := ⟨RX0, "take", "(I)I"⟩
abbrev cX0_rows : ByteArray := prog_1_method_7_code
def yX0_rows : MethodName := ⟨RX0, "rows", "()I"⟩
abbrev cX0_length : ByteArray := prog_1_method_8_code
def yX0_length : MethodName := ⟨RX0, "length", "(I)I"⟩
abbrev cX0_sign : ByteArray := prog_1_method_9_code
def yX0_sign : MethodName := ⟨RX0, "sign", "(II)I"⟩
abbrev cX0_compare : ByteArray := prog_1_method_10_code
def yX0_compare : MethodName := ⟨RX0, "compare", "(II)I"⟩
abbrev cX0_colon : ByteArray := prog_1_method_11_code
def yX0_colon : MethodName := ⟨RX0, "colon", "(I)I"⟩
abbrev cX0_part : ByteArray := prog_1_method_12_code
def yX0_part : MethodName := ⟨RX0, "part", "(III)I"⟩
abbrev cX0_next : ByteArray := prog_1_method_13_code
def yX0_next : MethodName := ⟨RX0, "next", "(I)I"⟩
abbrev cX0_clear : ByteArray := prog_1_method_14_code
def yX0_clear : MethodName := ⟨RX0, "clear", "()I"⟩
abbrev cX0_isRow : ByteArray := prog_1_method_15_code
def yX0_isRow : MethodName := ⟨RX0, "isRow", "(I)Z"⟩
abbrev cX0_lengthOf : ByteArray := prog_1_method_16_code
def yX0_lengthOf : MethodName := ⟨RX0, "lengthOf", "(I)I"⟩
abbrev cX0_numberOf : ByteArray := prog_1_method_17_code
def yX0_numberOf : MethodName := ⟨RX0, "numberOf", "([III)I"⟩
abbrev cX0_find : ByteArray := prog_1_method_18_code
def yX0_find : MethodName := ⟨RX0, "find", "([III)I"⟩
abbrev cX0_isSame : ByteArray := prog_1_method_19_code
def yX0_isSame : MethodName := ⟨RX0, "isSame", "([III)Z"⟩
abbrev cX0_hasRoomFor : ByteArray := prog_1_method_20_code
def yX0_hasRoomFor : MethodName := ⟨RX0, "hasRoomFor", "(I)Z"⟩
abbrev cX0_add : ByteArray := prog_1_method_21_code
def yX0_add : MethodName := ⟨RX0, "add", "([III)I"⟩
abbrev cX0_order : ByteArray := prog_1_method_22_code
def yX0_order : MethodName := ⟨RX0, "order", "(II)I"⟩
abbrev cX0_findColon : ByteArray := prog_1_method_23_code
def yX0_findColon : MethodName := ⟨RX0, "findColon", "(II)I"⟩
abbrev cX0_isNameStart : ByteArray := prog_1_method_24_code
def yX0_isNameStart : MethodName := ⟨RX0, "isNameStart", "(I)Z"⟩
def RX1 : String := "NameNumbersModel"
def TX1 : u_T := fun k => match k with
  | 0 => ("NameNumbersModel", "signs", "[I", true)
  | 1 => ("NameNumbersModel", "used", "I", false)
  | 2 => ("NameNumbersModel", "starts", "[I", true)
  | 3 => ("NameNumbersModel", "lengths", "[I", true)
  | 4 => ("NameNumbersModel", "rows", "I", false)
  | 5 => ("NameNumbersModel", "draft", "[I", true)
  | 6 => ("NameNumbersModel", "written", "I", false)
  | 7 => ("NameNumbersModel", "sought", "[I", true)
  | _ => ("NameNumbersModel", "soughtLength", "I", false)
def tyX1 : Nat → FieldType := fun k => match k with
  | 0 => .array .int
  | 1 => .int
  | 2 => .array .int
  | 3 => .array .int
  | 4 => .int
  | 5 => .array .int
  | 6 => .int
  | 7 => .array .int
  | _ => .int
abbrev wsX10 : List Cond := u_ws RX1 TX1 9
theorem nmX1 : ∀ a, a < 9 → ∀ b, b < 9 → a ≠ b → (TX1 a).2.1 ≠ (TX1 b).2.1 := by decide +kernel
theorem tyX1_ok : ∀ k, k < 9 → parseFieldDescriptor (TX1 k).2.2.1 = some (tyX1 k) := by decide +kernel
abbrev cX1_init : ByteArray := prog_3_method_1_code
def yX1_init : MethodName := ⟨RX1, "<init>", "()V"⟩
abbrev cX1_write : ByteArray := prog_3_method_2_code
def yX1_write : MethodName := ⟨RX1, "write", "(II)I"⟩
abbrev cX1_cut : ByteArray := prog_3_method_3_code
def yX1_cut : MethodName := ⟨RX1, "cut", "(I)I"⟩
abbrev cX1_find : ByteArray := prog_3_method_4_code
def yX1_find : MethodName := ⟨RX1, "find", "()I"⟩
abbrev cX1_get : ByteArray := prog_3_method_5_code
def yX1_get : MethodName := ⟨RX1, "get", "()I"⟩
abbrev cX1_seekDraft : ByteArray := prog_3_method_6_code
def yX1_seekDraft : MethodName := ⟨RX1, "seekDraft", "()V"⟩
abbrev cX1_number : ByteArray := prog_3_method_7_code
def yX1_number : MethodName := ⟨RX1, "number", "()I"⟩
abbrev cX1_isKnown : ByteArray := prog_3_method_8_code
def yX1_isKnown : MethodName := ⟨RX1, "isKnown", "()Z"⟩
abbrev cX1_isRow : ByteArray := prog_3_method_9_code
def yX1_isRow : MethodName := ⟨RX1, "isRow", "(I)Z"⟩
abbrev cX1_take : ByteArray := prog_3_method_10_code
def yX1_take : MethodName := ⟨RX1, "take", "(I)I"⟩
abbrev cX1_rows : ByteArray := prog_3_method_11_code
def yX1_rows : MethodName := ⟨RX1, "rows", "()I"⟩
abbrev cX1_length : ByteArray := prog_3_method_12_code
def yX1_length : MethodName := ⟨RX1, "length", "(I)I"⟩
abbrev cX1_sign : ByteArray := prog_3_method_13_code
def yX1_sign : MethodName := ⟨RX1, "sign", "(II)I"⟩
abbrev cX1_order : ByteArray := prog_3_method_14_code
def yX1_order : MethodName := ⟨RX1, "order", "(II)I"⟩
abbrev cX1_compare : ByteArray := prog_3_method_15_code
def yX1_compare : MethodName := ⟨RX1, "compare", "(II)I"⟩
abbrev cX1_isIn : ByteArray := prog_3_method_16_code
def yX1_isIn : MethodName := ⟨RX1, "isIn", "(III)Z"⟩
abbrev cX1_isStart : ByteArray := prog_3_method_17_code
def yX1_isStart : MethodName := ⟨RX1, "isStart", "(I)Z"⟩
abbrev cX1_colon : ByteArray := prog_3_method_18_code
def yX1_colon : MethodName := ⟨RX1, "colon", "(I)I"⟩
def RJ9 : String := "java/lang/Math"
def TJ9 : u_T := fun k => match k with
  | _ => ("", "", "", false)
def tyJ9 : Nat → FieldType := fun k => match k with
  | _ => .int
abbrev wsJ90 : List Cond := u_ws RJ9 TJ9 0
theorem nmJ9 : ∀ a, a < 0 → ∀ b, b < 0 → a ≠ b → (TJ9 a).2.1 ≠ (TJ9 b).2.1 := by decide +kernel
theorem tyJ9_ok : ∀ k, k < 0 → parseFieldDescriptor (TJ9 k).2.2.1 = some (tyJ9 k) := by decide +kernel
abbrev cJ9_min_7cf53 : ByteArray := prog_4_method_69_code
def yJ9_min_7cf53 : MethodName := ⟨RJ9, "min", "(II)I"⟩
def RJ10 : String := "java/lang/System"
def TJ10 : u_T := fun k => match k with
  | _ => ("", "", "", false)
def tyJ10 : Nat → FieldType := fun k => match k with
  | _ => .int
abbrev wsJ100 : List Cond := u_ws RJ10 TJ10 0
theorem nmJ10 : ∀ a, a < 0 → ∀ b, b < 0 → a ≠ b → (TJ10 a).2.1 ≠ (TJ10 b).2.1 := by decide +kernel
theorem tyJ10_ok : ∀ k, k < 0 → parseFieldDescriptor (TJ10 k).2.2.1 = some (tyJ10 k) := by decide +kernel
def RL : String := "NameNumbersLaw"
abbrev cL_law : ByteArray := code
def yL_law : MethodName := ⟨RL, "law", "([I)Z"⟩
def wsX0_init : List Cond := .code yX0_init cX0_init 1 none :: ([.methodLink RX0 1 objectInit, .instanceMethod objectInit, .code objectInit ⟨#[0xb1]⟩ 1 none, .arrayClass .int, .fieldLink RX0 9 "NameNumbers" "draft" "[I", .fieldLink RX0 13 "NameNumbers" "draftLength" "I", .fieldLink RX0 17 "NameNumbers" "characters" "[I", .fieldLink RX0 20 "NameNumbers" "starts" "[I", .fieldLink RX0 23 "NameNumbers" "rowCount" "I"] ++ wsX00)
def wsX0_write : List Cond := .code yX0_write cX0_write 4 (some .int) :: ([.constant RX0 26 (1114111), .fieldLink RX0 13 "NameNumbers" "draftLength" "I", .fieldLink RX0 9 "NameNumbers" "draft" "[I"] ++ wsX00)
def wsX0_cut : List Cond := .code yX0_cut cX0_cut 3 (some .int) :: ([.fieldLink RX0 13 "NameNumbers" "draftLength" "I"] ++ wsX00)
def wsX0_lengthOf : List Cond := .code yX0_lengthOf cX0_lengthOf 2 (some .int) :: ([.fieldLink RX0 20 "NameNumbers" "starts" "[I"] ++ wsX00)
def wsX0_isSame : List Cond := .code yX0_isSame cX0_isSame 6 (some .boolean) :: ([.fieldLink RX0 17 "NameNumbers" "characters" "[I", .fieldLink RX0 20 "NameNumbers" "starts" "[I", .methodLink RX0 38 yX0_lengthOf, .instanceMethod yX0_lengthOf, .selects RX0 yX0_lengthOf yX0_lengthOf, .initialized RX0, .code yX0_lengthOf cX0_lengthOf 2 (some .int)] ++ wsX00)
def wsX0_find : List Cond := .code yX0_find cX0_find 5 (some .int) :: ([.fieldLink RX0 23 "NameNumbers" "rowCount" "I", .methodLink RX0 38 yX0_lengthOf, .instanceMethod yX0_lengthOf, .selects RX0 yX0_lengthOf yX0_lengthOf, .initialized RX0, .code yX0_lengthOf cX0_lengthOf 2 (some .int), .fieldLink RX0 20 "NameNumbers" "starts" "[I", .methodLink RX0 64 yX0_isSame, .instanceMethod yX0_isSame, .selects RX0 yX0_isSame yX0_isSame, .code yX0_isSame cX0_isSame 6 (some .boolean), .fieldLink RX0 17 "NameNumbers" "characters" "[I"] ++ wsX00)
def wsX0_hasRoomFor : List Cond := .code yX0_hasRoomFor cX0_hasRoomFor 2 (some .boolean) :: ([.fieldLink RX0 23 "NameNumbers" "rowCount" "I", .fieldLink RX0 20 "NameNumbers" "starts" "[I"] ++ wsX00)
def wsX0_add : List Cond := .code yX0_add cX0_add 5 (some .int) :: ([.fieldLink RX0 20 "NameNumbers" "starts" "[I", .fieldLink RX0 23 "NameNumbers" "rowCount" "I", .fieldLink RX0 17 "NameNumbers" "characters" "[I", .methodLink RX0 42 arraycopyName, .native arraycopyName, .static arraycopyName, .initialized "java/lang/System"] ++ wsX00)
def wsX0_numberOf_r1 : List Cond := [Cond.methodLink RX0 31 yX0_find, Cond.instanceMethod yX0_find, Cond.selects RX0 yX0_find yX0_find, Cond.initialized RX0, Cond.code yX0_find cX0_find 5 (some .int), Cond.fieldLink RX0 23 "NameNumbers" "rowCount" "I", Cond.methodLink RX0 38 yX0_lengthOf, Cond.instanceMethod yX0_lengthOf, Cond.selects RX0 yX0_lengthOf yX0_lengthOf, Cond.code yX0_lengthOf cX0_lengthOf 2 (some .int), Cond.fieldLink RX0 20 "NameNumbers" "starts" "[I", Cond.methodLink RX0 64 yX0_isSame, Cond.instanceMethod yX0_isSame, Cond.selects RX0 yX0_isSame yX0_isSame, Cond.code yX0_isSame cX0_isSame 6 (some .boolean), Cond.fieldLink RX0 17 "NameNumbers" "characters" "[I", Cond.methodLink RX0 58 yX0_hasRoomFor, Cond.instanceMethod yX0_hasRoomFor, Cond.selects RX0 yX0_hasRoomFor yX0_hasRoomFor, Cond.code yX0_hasRoomFor cX0_hasRoomFor 2 (some .boolean), Cond.methodLink RX0 61 yX0_add, Cond.instanceMethod yX0_add, Cond.selects RX0 yX0_add yX0_add, Cond.code yX0_add cX0_add 5 (some .int)]
def wsX0_numberOf_r2 : List Cond := [Cond.methodLink RX0 42 arraycopyName, Cond.native arraycopyName, Cond.static arraycopyName, Cond.initialized "java/lang/System"]
def wsX0_numberOf : List Cond := .code yX0_numberOf cX0_numberOf 5 (some .int) :: ((wsX0_numberOf_r1 ++ wsX0_numberOf_r2) ++ wsX00)
def wsX0_number_r1 : List Cond := [Cond.fieldLink RX0 9 "NameNumbers" "draft" "[I", Cond.fieldLink RX0 13 "NameNumbers" "draftLength" "I", Cond.methodLink RX0 27 yX0_numberOf, Cond.instanceMethod yX0_numberOf, Cond.selects RX0 yX0_numberOf yX0_numberOf, Cond.initialized RX0, Cond.code yX0_numberOf cX0_numberOf 5 (some .int), Cond.methodLink RX0 31 yX0_find, Cond.instanceMethod yX0_find, Cond.selects RX0 yX0_find yX0_find, Cond.code yX0_find cX0_find 5 (some .int), Cond.fieldLink RX0 23 "NameNumbers" "rowCount" "I", Cond.methodLink RX0 38 yX0_lengthOf, Cond.instanceMethod yX0_lengthOf, Cond.selects RX0 yX0_lengthOf yX0_lengthOf, Cond.code yX0_lengthOf cX0_lengthOf 2 (some .int), Cond.fieldLink RX0 20 "NameNumbers" "starts" "[I", Cond.methodLink RX0 64 yX0_isSame, Cond.instanceMethod yX0_isSame, Cond.selects RX0 yX0_isSame yX0_isSame, Cond.code yX0_isSame cX0_isSame 6 (some .boolean), Cond.fieldLink RX0 17 "NameNumbers" "characters" "[I", Cond.methodLink RX0 58 yX0_hasRoomFor, Cond.instanceMethod yX0_hasRoomFor]
def wsX0_number_r2 : List Cond := [Cond.selects RX0 yX0_hasRoomFor yX0_hasRoomFor, Cond.code yX0_hasRoomFor cX0_hasRoomFor 2 (some .boolean), Cond.methodLink RX0 61 yX0_add, Cond.instanceMethod yX0_add, Cond.selects RX0 yX0_add yX0_add, Cond.code yX0_add cX0_add 5 (some .int), Cond.methodLink RX0 42 arraycopyName, Cond.native arraycopyName, Cond.static arraycopyName, Cond.initialized "java/lang/System"]
def wsX0_number : List Cond := .code yX0_number cX0_number 2 (some .int) :: ((wsX0_number_r1 ++ wsX0_number_r2) ++ wsX00)
def wsX0_isKnown : List Cond := .code yX0_isKnown cX0_isKnown 1 (some .boolean) :: ([.fieldLink RX0 9 "NameNumbers" "draft" "[I", .fieldLink RX0 13 "NameNumbers" "draftLength" "I", .methodLink RX0 31 yX0_find, .instanceMethod yX0_find, .selects RX0 yX0_find yX0_find, .initialized RX0, .code yX0_find cX0_find 5 (some .int), .fieldLink RX0 23 "NameNumbers" "rowCount" "I", .methodLink RX0 38 yX0_lengthOf, .instanceMethod yX0_lengthOf, .selects RX0 yX0_lengthOf yX0_lengthOf, .code yX0_lengthOf cX0_lengthOf 2 (some .int), .fieldLink RX0 20 "NameNumbers" "starts" "[I", .methodLink RX0 64 yX0_isSame, .instanceMethod yX0_isSame, .selects RX0 yX0_isSame yX0_isSame, .code yX0_isSame cX0_isSame 6 (some .boolean), .fieldLink RX0 17 "NameNumbers" "characters" "[I"] ++ wsX00)
def wsX0_isRow : List Cond := .code yX0_isRow cX0_isRow 2 (some .boolean) :: ([.fieldLink RX0 23 "NameNumbers" "rowCount" "I"] ++ wsX00)
def wsX0_take : List Cond := .code yX0_take cX0_take 3 (some .int) :: ([.fieldLink RX0 13 "NameNumbers" "draftLength" "I", .fieldLink RX0 17 "NameNumbers" "characters" "[I", .fieldLink RX0 20 "NameNumbers" "starts" "[I", .fieldLink RX0 9 "NameNumbers" "draft" "[I", .methodLink RX0 42 arraycopyName, .native arraycopyName, .static arraycopyName, .initialized "java/lang/System", .methodLink RX0 34 yX0_isRow, .instanceMethod yX0_isRow, .selects RX0 yX0_isRow yX0_isRow, .initialized RX0, .code yX0_isRow cX0_isRow 2 (some .boolean), .fieldLink RX0 23 "NameNumbers" "rowCount" "I", .methodLink RX0 38 yX0_lengthOf, .instanceMethod yX0_lengthOf, .selects RX0 yX0_lengthOf yX0_lengthOf, .code yX0_lengthOf cX0_lengthOf 2 (some .int)] ++ wsX00)
def wsX0_rows : List Cond := .code yX0_rows cX0_rows 1 (some .int) :: ([.fieldLink RX0 23 "NameNumbers" "rowCount" "I"] ++ wsX00)
def wsX0_length : List Cond := .code yX0_length cX0_length 2 (some .int) :: ([.methodLink RX0 34 yX0_isRow, .instanceMethod yX0_isRow, .selects RX0 yX0_isRow yX0_isRow, .initialized RX0, .code yX0_isRow cX0_isRow 2 (some .boolean), .fieldLink RX0 23 "NameNumbers" "rowCount" "I", .methodLink RX0 38 yX0_lengthOf, .instanceMethod yX0_lengthOf, .selects RX0 yX0_lengthOf yX0_lengthOf, .code yX0_lengthOf cX0_lengthOf 2 (some .int), .fieldLink RX0 20 "NameNumbers" "starts" "[I"] ++ wsX00)
def wsX0_sign : List Cond := .code yX0_sign cX0_sign 3 (some .int) :: ([.fieldLink RX0 17 "NameNumbers" "characters" "[I", .fieldLink RX0 20 "NameNumbers" "starts" "[I", .methodLink RX0 34 yX0_isRow, .instanceMethod yX0_isRow, .selects RX0 yX0_isRow yX0_isRow, .initialized RX0, .code yX0_isRow cX0_isRow 2 (some .boolean), .fieldLink RX0 23 "NameNumbers" "rowCount" "I", .methodLink RX0 38 yX0_lengthOf, .instanceMethod yX0_lengthOf, .selects RX0 yX0_lengthOf yX0_lengthOf, .code yX0_lengthOf cX0_lengthOf 2 (some .int)] ++ wsX00)
def wsX0_order : List Cond := .code yX0_order cX0_order 7 (some .int) :: ([.methodLink RX0 68 Lib.Math.min.name, .static Lib.Math.min.name, .initialized "java/lang/Math", .code Lib.Math.min.name Lib.Math.min.code 2 (some .int), .fieldLink RX0 17 "NameNumbers" "characters" "[I", .fieldLink RX0 20 "NameNumbers" "starts" "[I", .methodLink RX0 38 yX0_lengthOf, .instanceMethod yX0_lengthOf, .selects RX0 yX0_lengthOf yX0_lengthOf, .initialized RX0, .code yX0_lengthOf cX0_lengthOf 2 (some .int)] ++ wsX00)
def wsX0_compare : List Cond := .code yX0_compare cX0_compare 3 (some .int) :: ([.methodLink RX0 34 yX0_isRow, .instanceMethod yX0_isRow, .selects RX0 yX0_isRow yX0_isRow, .initialized RX0, .code yX0_isRow cX0_isRow 2 (some .boolean), .fieldLink RX0 23 "NameNumbers" "rowCount" "I", .methodLink RX0 48 yX0_order, .instanceMethod yX0_order, .selects RX0 yX0_order yX0_order, .code yX0_order cX0_order 7 (some .int), .methodLink RX0 68 Lib.Math.min.name, .static Lib.Math.min.name, .initialized "java/lang/Math", .code Lib.Math.min.name Lib.Math.min.code 2 (some .int), .fieldLink RX0 17 "NameNumbers" "characters" "[I", .fieldLink RX0 20 "NameNumbers" "starts" "[I", .methodLink RX0 38 yX0_lengthOf, .instanceMethod yX0_lengthOf, .selects RX0 yX0_lengthOf yX0_lengthOf, .code yX0_lengthOf cX0_lengthOf 2 (some .int)] ++ wsX00)
def wsX0_findColon : List Cond := .code yX0_findColon cX0_findColon 4 (some .int) :: ([.fieldLink RX0 17 "NameNumbers" "characters" "[I"] ++ wsX00)
def wsX0_isNameStart : List Cond := .code yX0_isNameStart cX0_isNameStart 2 (some .boolean) :: ([.fieldLink RX0 73 "NameNumbers" "NAME_STARTS" "[I"])
def wsX0_colon : List Cond := .code yX0_colon cX0_colon 7 (some .int) :: ([.fieldLink RX0 20 "NameNumbers" "starts" "[I", .fieldLink RX0 17 "NameNumbers" "characters" "[I", .methodLink RX0 34 yX0_isRow, .instanceMethod yX0_isRow, .selects RX0 yX0_isRow yX0_isRow, .initialized RX0, .code yX0_isRow cX0_isRow 2 (some .boolean), .fieldLink RX0 23 "NameNumbers" "rowCount" "I", .methodLink RX0 52 yX0_findColon, .instanceMethod yX0_findColon, .selects RX0 yX0_findColon yX0_findColon, .code yX0_findColon cX0_findColon 4 (some .int), .methodLink RX0 55 yX0_isNameStart, .static yX0_isNameStart, .code yX0_isNameStart cX0_isNameStart 2 (some .boolean), .fieldLink RX0 73 "NameNumbers" "NAME_STARTS" "[I"] ++ wsX00)
def wsX0_part_r1 : List Cond := [Cond.fieldLink RX0 17 "NameNumbers" "characters" "[I", Cond.fieldLink RX0 20 "NameNumbers" "starts" "[I", Cond.methodLink RX0 34 yX0_isRow, Cond.instanceMethod yX0_isRow, Cond.selects RX0 yX0_isRow yX0_isRow, Cond.initialized RX0, Cond.code yX0_isRow cX0_isRow 2 (some .boolean), Cond.fieldLink RX0 23 "NameNumbers" "rowCount" "I", Cond.methodLink RX0 38 yX0_lengthOf, Cond.instanceMethod yX0_lengthOf, Cond.selects RX0 yX0_lengthOf yX0_lengthOf, Cond.code yX0_lengthOf cX0_lengthOf 2 (some .int), Cond.methodLink RX0 27 yX0_numberOf, Cond.instanceMethod yX0_numberOf, Cond.selects RX0 yX0_numberOf yX0_numberOf, Cond.code yX0_numberOf cX0_numberOf 5 (some .int), Cond.methodLink RX0 31 yX0_find, Cond.instanceMethod yX0_find, Cond.selects RX0 yX0_find yX0_find, Cond.code yX0_find cX0_find 5 (some .int), Cond.methodLink RX0 64 yX0_isSame, Cond.instanceMethod yX0_isSame, Cond.selects RX0 yX0_isSame yX0_isSame, Cond.code yX0_isSame cX0_isSame 6 (some .boolean)]
def wsX0_part_r2 : List Cond := [Cond.methodLink RX0 58 yX0_hasRoomFor, Cond.instanceMethod yX0_hasRoomFor, Cond.selects RX0 yX0_hasRoomFor yX0_hasRoomFor, Cond.code yX0_hasRoomFor cX0_hasRoomFor 2 (some .boolean), Cond.methodLink RX0 61 yX0_add, Cond.instanceMethod yX0_add, Cond.selects RX0 yX0_add yX0_add, Cond.code yX0_add cX0_add 5 (some .int), Cond.methodLink RX0 42 arraycopyName, Cond.native arraycopyName, Cond.static arraycopyName, Cond.initialized "java/lang/System"]
def wsX0_part : List Cond := .code yX0_part cX0_part 5 (some .int) :: ((wsX0_part_r1 ++ wsX0_part_r2) ++ wsX00)
def wsX0_next : List Cond := .code yX0_next cX0_next 4 (some .int) :: ([.fieldLink RX0 23 "NameNumbers" "rowCount" "I", .methodLink RX0 34 yX0_isRow, .instanceMethod yX0_isRow, .selects RX0 yX0_isRow yX0_isRow, .initialized RX0, .code yX0_isRow cX0_isRow 2 (some .boolean), .methodLink RX0 48 yX0_order, .instanceMethod yX0_order, .selects RX0 yX0_order yX0_order, .code yX0_order cX0_order 7 (some .int), .methodLink RX0 68 Lib.Math.min.name, .static Lib.Math.min.name, .initialized "java/lang/Math", .code Lib.Math.min.name Lib.Math.min.code 2 (some .int), .fieldLink RX0 17 "NameNumbers" "characters" "[I", .fieldLink RX0 20 "NameNumbers" "starts" "[I", .methodLink RX0 38 yX0_lengthOf, .instanceMethod yX0_lengthOf, .selects RX0 yX0_lengthOf yX0_lengthOf, .code yX0_lengthOf cX0_lengthOf 2 (some .int)] ++ wsX00)
def wsX0_clear : List Cond := .code yX0_clear cX0_clear 2 (some .int) :: ([.fieldLink RX0 23 "NameNumbers" "rowCount" "I"] ++ wsX00)
def wsX1_init : List Cond := .code yX1_init cX1_init 1 none :: ([.methodLink RX1 1 objectInit, .instanceMethod objectInit, .code objectInit ⟨#[0xb1]⟩ 1 none, .arrayClass .int, .fieldLink RX1 7 "NameNumbersModel" "signs" "[I", .fieldLink RX1 13 "NameNumbersModel" "starts" "[I", .fieldLink RX1 16 "NameNumbersModel" "lengths" "[I", .fieldLink RX1 19 "NameNumbersModel" "draft" "[I", .fieldLink RX1 22 "NameNumbersModel" "sought" "[I"] ++ wsX10)
def wsX1_write : List Cond := .code yX1_write cX1_write 4 (some .int) :: ([.constant RX1 25 (1114111), .fieldLink RX1 26 "NameNumbersModel" "written" "I", .fieldLink RX1 19 "NameNumbersModel" "draft" "[I"] ++ wsX10)
def wsX1_cut : List Cond := .code yX1_cut cX1_cut 3 (some .int) :: ([.fieldLink RX1 26 "NameNumbersModel" "written" "I"] ++ wsX10)
def wsX1_find : List Cond := .code yX1_find cX1_find 5 (some .int) :: ([.fieldLink RX1 30 "NameNumbersModel" "rows" "I", .fieldLink RX1 16 "NameNumbersModel" "lengths" "[I", .fieldLink RX1 33 "NameNumbersModel" "soughtLength" "I", .fieldLink RX1 7 "NameNumbersModel" "signs" "[I", .fieldLink RX1 13 "NameNumbersModel" "starts" "[I", .fieldLink RX1 22 "NameNumbersModel" "sought" "[I"] ++ wsX10)
def wsX1_get : List Cond := .code yX1_get cX1_get 3 (some .int) :: ([.fieldLink RX1 30 "NameNumbersModel" "rows" "I", .fieldLink RX1 40 "NameNumbersModel" "used" "I", .fieldLink RX1 33 "NameNumbersModel" "soughtLength" "I", .fieldLink RX1 13 "NameNumbersModel" "starts" "[I", .fieldLink RX1 16 "NameNumbersModel" "lengths" "[I", .fieldLink RX1 7 "NameNumbersModel" "signs" "[I", .fieldLink RX1 22 "NameNumbersModel" "sought" "[I", .methodLink RX1 36 yX1_find, .instanceMethod yX1_find, .selects RX1 yX1_find yX1_find, .initialized RX1, .code yX1_find cX1_find 5 (some .int)] ++ wsX10)
def wsX1_seekDraft : List Cond := .code yX1_seekDraft cX1_seekDraft 2 none :: ([.fieldLink RX1 26 "NameNumbersModel" "written" "I", .fieldLink RX1 33 "NameNumbersModel" "soughtLength" "I", .fieldLink RX1 22 "NameNumbersModel" "sought" "[I", .fieldLink RX1 19 "NameNumbersModel" "draft" "[I"] ++ wsX10)
def wsX1_number : List Cond := .code yX1_number cX1_number 2 (some .int) :: ([.fieldLink RX1 26 "NameNumbersModel" "written" "I", .methodLink RX1 43 yX1_seekDraft, .instanceMethod yX1_seekDraft, .selects RX1 yX1_seekDraft yX1_seekDraft, .initialized RX1, .code yX1_seekDraft cX1_seekDraft 2 none, .fieldLink RX1 33 "NameNumbersModel" "soughtLength" "I", .fieldLink RX1 22 "NameNumbersModel" "sought" "[I", .fieldLink RX1 19 "NameNumbersModel" "draft" "[I", .methodLink RX1 46 yX1_get, .instanceMethod yX1_get, .selects RX1 yX1_get yX1_get, .code yX1_get cX1_get 3 (some .int), .fieldLink RX1 30 "NameNumbersModel" "rows" "I", .fieldLink RX1 40 "NameNumbersModel" "used" "I", .fieldLink RX1 13 "NameNumbersModel" "starts" "[I", .fieldLink RX1 16 "NameNumbersModel" "lengths" "[I", .fieldLink RX1 7 "NameNumbersModel" "signs" "[I", .methodLink RX1 36 yX1_find, .instanceMethod yX1_find, .selects RX1 yX1_find yX1_find, .code yX1_find cX1_find 5 (some .int)] ++ wsX10)
def wsX1_isKnown : List Cond := .code yX1_isKnown cX1_isKnown 1 (some .boolean) :: ([.methodLink RX1 43 yX1_seekDraft, .instanceMethod yX1_seekDraft, .selects RX1 yX1_seekDraft yX1_seekDraft, .initialized RX1, .code yX1_seekDraft cX1_seekDraft 2 none, .fieldLink RX1 26 "NameNumbersModel" "written" "I", .fieldLink RX1 33 "NameNumbersModel" "soughtLength" "I", .fieldLink RX1 22 "NameNumbersModel" "sought" "[I", .fieldLink RX1 19 "NameNumbersModel" "draft" "[I", .methodLink RX1 36 yX1_find, .instanceMethod yX1_find, .selects RX1 yX1_find yX1_find, .code yX1_find cX1_find 5 (some .int), .fieldLink RX1 30 "NameNumbersModel" "rows" "I", .fieldLink RX1 16 "NameNumbersModel" "lengths" "[I", .fieldLink RX1 7 "NameNumbersModel" "signs" "[I", .fieldLink RX1 13 "NameNumbersModel" "starts" "[I"] ++ wsX10)
def wsX1_isRow : List Cond := .code yX1_isRow cX1_isRow 2 (some .boolean) :: ([.fieldLink RX1 30 "NameNumbersModel" "rows" "I"] ++ wsX10)
def wsX1_take : List Cond := .code yX1_take cX1_take 3 (some .int) :: ([.fieldLink RX1 26 "NameNumbersModel" "written" "I", .fieldLink RX1 16 "NameNumbersModel" "lengths" "[I", .fieldLink RX1 19 "NameNumbersModel" "draft" "[I", .fieldLink RX1 7 "NameNumbersModel" "signs" "[I", .fieldLink RX1 13 "NameNumbersModel" "starts" "[I", .methodLink RX1 49 yX1_isRow, .instanceMethod yX1_isRow, .selects RX1 yX1_isRow yX1_isRow, .initialized RX1, .code yX1_isRow cX1_isRow 2 (some .boolean), .fieldLink RX1 30 "NameNumbersModel" "rows" "I"] ++ wsX10)
def wsX1_rows : List Cond := .code yX1_rows cX1_rows 1 (some .int) :: ([.fieldLink RX1 30 "NameNumbersModel" "rows" "I"] ++ wsX10)
def wsX1_length : List Cond := .code yX1_length cX1_length 2 (some .int) :: ([.fieldLink RX1 16 "NameNumbersModel" "lengths" "[I", .methodLink RX1 49 yX1_isRow, .instanceMethod yX1_isRow, .selects RX1 yX1_isRow yX1_isRow, .initialized RX1, .code yX1_isRow cX1_isRow 2 (some .boolean), .fieldLink RX1 30 "NameNumbersModel" "rows" "I"] ++ wsX10)
def wsX1_sign : List Cond := .code yX1_sign cX1_sign 3 (some .int) :: ([.fieldLink RX1 16 "NameNumbersModel" "lengths" "[I", .fieldLink RX1 7 "NameNumbersModel" "signs" "[I", .fieldLink RX1 13 "NameNumbersModel" "starts" "[I", .methodLink RX1 49 yX1_isRow, .instanceMethod yX1_isRow, .selects RX1 yX1_isRow yX1_isRow, .initialized RX1, .code yX1_isRow cX1_isRow 2 (some .boolean), .fieldLink RX1 30 "NameNumbersModel" "rows" "I"] ++ wsX10)
def wsX1_order : List Cond := .code yX1_order cX1_order 6 (some .int) :: ([.fieldLink RX1 16 "NameNumbersModel" "lengths" "[I", .fieldLink RX1 7 "NameNumbersModel" "signs" "[I", .fieldLink RX1 13 "NameNumbersModel" "starts" "[I"] ++ wsX10)
def wsX1_compare : List Cond := .code yX1_compare cX1_compare 3 (some .int) :: ([.methodLink RX1 49 yX1_isRow, .instanceMethod yX1_isRow, .selects RX1 yX1_isRow yX1_isRow, .initialized RX1, .code yX1_isRow cX1_isRow 2 (some .boolean), .fieldLink RX1 30 "NameNumbersModel" "rows" "I", .methodLink RX1 53 yX1_order, .instanceMethod yX1_order, .selects RX1 yX1_order yX1_order, .code yX1_order cX1_order 6 (some .int), .fieldLink RX1 16 "NameNumbersModel" "lengths" "[I", .fieldLink RX1 7 "NameNumbersModel" "signs" "[I", .fieldLink RX1 13 "NameNumbersModel" "starts" "[I"] ++ wsX10)
def wsX1_isIn : List Cond := .code yX1_isIn cX1_isIn 3 (some .boolean) :: ([])
def wsX1_isStart : List Cond := .code yX1_isStart cX1_isStart 2 (some .boolean) :: ([.constant RX1 61 (55295), .constant RX1 62 (63744), .constant RX1 63 (64975), .constant RX1 64 (65008), .constant RX1 65 (65533), .constant RX1 66 (65536), .constant RX1 67 (983039), .methodLink RX1 57 yX1_isIn, .static yX1_isIn, .initialized RX1, .code yX1_isIn cX1_isIn 3 (some .boolean)])
def wsX1_colon : List Cond := .code yX1_colon cX1_colon 6 (some .int) :: ([.fieldLink RX1 16 "NameNumbersModel" "lengths" "[I", .fieldLink RX1 7 "NameNumbersModel" "signs" "[I", .fieldLink RX1 13 "NameNumbersModel" "starts" "[I", .methodLink RX1 49 yX1_isRow, .instanceMethod yX1_isRow, .selects RX1 yX1_isRow yX1_isRow, .initialized RX1, .code yX1_isRow cX1_isRow 2 (some .boolean), .fieldLink RX1 30 "NameNumbersModel" "rows" "I", .methodLink RX1 68 yX1_isStart, .static yX1_isStart, .code yX1_isStart cX1_isStart 2 (some .boolean), .constant RX1 61 (55295), .constant RX1 62 (63744), .constant RX1 63 (64975), .constant RX1 64 (65008), .constant RX1 65 (65533), .constant RX1 66 (65536), .constant RX1 67 (983039), .methodLink RX1 57 yX1_isIn, .static yX1_isIn, .code yX1_isIn cX1_isIn 3 (some .boolean)] ++ wsX10)
def wsJ9_min_7cf53 : List Cond := .code yJ9_min_7cf53 cJ9_min_7cf53 2 (some .int) :: ([])
def wsL_law_r1 : List Cond := [Cond.classLink RL 7 RX0, Cond.instantiable RX0 5, Cond.initialized RX0, Cond.classLink RL 10 RX1, Cond.instantiable RX1 9, Cond.initialized RX1, Cond.methodLink RL 9 yX0_init, Cond.instanceMethod yX0_init, Cond.code yX0_init cX0_init 1 none, Cond.methodLink RX0 1 objectInit, Cond.instanceMethod objectInit, Cond.code objectInit ⟨#[0xb1]⟩ 1 none, Cond.arrayClass .int, Cond.fieldLink RX0 9 "NameNumbers" "draft" "[I", Cond.fieldLink RX0 13 "NameNumbers" "draftLength" "I", Cond.fieldLink RX0 17 "NameNumbers" "characters" "[I", Cond.fieldLink RX0 20 "NameNumbers" "starts" "[I", Cond.fieldLink RX0 23 "NameNumbers" "rowCount" "I", Cond.methodLink RL 12 yX1_init, Cond.instanceMethod yX1_init, Cond.code yX1_init cX1_init 1 none, Cond.methodLink RX1 1 objectInit, Cond.fieldLink RX1 7 "NameNumbersModel" "signs" "[I", Cond.fieldLink RX1 13 "NameNumbersModel" "starts" "[I"]
def wsL_law_r2 : List Cond := [Cond.fieldLink RX1 16 "NameNumbersModel" "lengths" "[I", Cond.fieldLink RX1 19 "NameNumbersModel" "draft" "[I", Cond.fieldLink RX1 22 "NameNumbersModel" "sought" "[I", Cond.methodLink RL 13 yX0_write, Cond.instanceMethod yX0_write, Cond.selects RX0 yX0_write yX0_write, Cond.code yX0_write cX0_write 4 (some .int), Cond.constant RX0 26 (1114111), Cond.methodLink RL 17 yX1_write, Cond.instanceMethod yX1_write, Cond.selects RX1 yX1_write yX1_write, Cond.code yX1_write cX1_write 4 (some .int), Cond.constant RX1 25 (1114111), Cond.fieldLink RX1 26 "NameNumbersModel" "written" "I", Cond.methodLink RL 18 yX0_cut, Cond.instanceMethod yX0_cut, Cond.selects RX0 yX0_cut yX0_cut, Cond.code yX0_cut cX0_cut 3 (some .int), Cond.methodLink RL 22 yX1_cut, Cond.instanceMethod yX1_cut, Cond.selects RX1 yX1_cut yX1_cut, Cond.code yX1_cut cX1_cut 3 (some .int), Cond.methodLink RL 23 yX0_number, Cond.instanceMethod yX0_number]
def wsL_law_r3 : List Cond := [Cond.selects RX0 yX0_number yX0_number, Cond.code yX0_number cX0_number 2 (some .int), Cond.methodLink RX0 27 yX0_numberOf, Cond.instanceMethod yX0_numberOf, Cond.selects RX0 yX0_numberOf yX0_numberOf, Cond.code yX0_numberOf cX0_numberOf 5 (some .int), Cond.methodLink RX0 31 yX0_find, Cond.instanceMethod yX0_find, Cond.selects RX0 yX0_find yX0_find, Cond.code yX0_find cX0_find 5 (some .int), Cond.methodLink RX0 38 yX0_lengthOf, Cond.instanceMethod yX0_lengthOf, Cond.selects RX0 yX0_lengthOf yX0_lengthOf, Cond.code yX0_lengthOf cX0_lengthOf 2 (some .int), Cond.methodLink RX0 64 yX0_isSame, Cond.instanceMethod yX0_isSame, Cond.selects RX0 yX0_isSame yX0_isSame, Cond.code yX0_isSame cX0_isSame 6 (some .boolean), Cond.methodLink RX0 58 yX0_hasRoomFor, Cond.instanceMethod yX0_hasRoomFor, Cond.selects RX0 yX0_hasRoomFor yX0_hasRoomFor, Cond.code yX0_hasRoomFor cX0_hasRoomFor 2 (some .boolean), Cond.methodLink RX0 61 yX0_add, Cond.instanceMethod yX0_add]
def wsL_law_r4 : List Cond := [Cond.selects RX0 yX0_add yX0_add, Cond.code yX0_add cX0_add 5 (some .int), Cond.methodLink RX0 42 arraycopyName, Cond.native arraycopyName, Cond.static arraycopyName, Cond.initialized "java/lang/System", Cond.methodLink RL 27 yX1_number, Cond.instanceMethod yX1_number, Cond.selects RX1 yX1_number yX1_number, Cond.code yX1_number cX1_number 2 (some .int), Cond.methodLink RX1 43 yX1_seekDraft, Cond.instanceMethod yX1_seekDraft, Cond.selects RX1 yX1_seekDraft yX1_seekDraft, Cond.code yX1_seekDraft cX1_seekDraft 2 none, Cond.fieldLink RX1 33 "NameNumbersModel" "soughtLength" "I", Cond.methodLink RX1 46 yX1_get, Cond.instanceMethod yX1_get, Cond.selects RX1 yX1_get yX1_get, Cond.code yX1_get cX1_get 3 (some .int), Cond.fieldLink RX1 30 "NameNumbersModel" "rows" "I", Cond.fieldLink RX1 40 "NameNumbersModel" "used" "I", Cond.methodLink RX1 36 yX1_find, Cond.instanceMethod yX1_find, Cond.selects RX1 yX1_find yX1_find]
def wsL_law_r5 : List Cond := [Cond.code yX1_find cX1_find 5 (some .int), Cond.methodLink RL 28 yX0_isKnown, Cond.instanceMethod yX0_isKnown, Cond.selects RX0 yX0_isKnown yX0_isKnown, Cond.code yX0_isKnown cX0_isKnown 1 (some .boolean), Cond.methodLink RL 32 yX1_isKnown, Cond.instanceMethod yX1_isKnown, Cond.selects RX1 yX1_isKnown yX1_isKnown, Cond.code yX1_isKnown cX1_isKnown 1 (some .boolean), Cond.methodLink RL 33 yX0_take, Cond.instanceMethod yX0_take, Cond.selects RX0 yX0_take yX0_take, Cond.code yX0_take cX0_take 3 (some .int), Cond.methodLink RX0 34 yX0_isRow, Cond.instanceMethod yX0_isRow, Cond.selects RX0 yX0_isRow yX0_isRow, Cond.code yX0_isRow cX0_isRow 2 (some .boolean), Cond.methodLink RL 36 yX1_take, Cond.instanceMethod yX1_take, Cond.selects RX1 yX1_take yX1_take, Cond.code yX1_take cX1_take 3 (some .int), Cond.methodLink RX1 49 yX1_isRow, Cond.instanceMethod yX1_isRow, Cond.selects RX1 yX1_isRow yX1_isRow]
def wsL_law_r6 : List Cond := [Cond.code yX1_isRow cX1_isRow 2 (some .boolean), Cond.methodLink RL 37 yX0_rows, Cond.instanceMethod yX0_rows, Cond.selects RX0 yX0_rows yX0_rows, Cond.code yX0_rows cX0_rows 1 (some .int), Cond.methodLink RL 40 yX1_rows, Cond.instanceMethod yX1_rows, Cond.selects RX1 yX1_rows yX1_rows, Cond.code yX1_rows cX1_rows 1 (some .int), Cond.methodLink RL 41 yX0_length, Cond.instanceMethod yX0_length, Cond.selects RX0 yX0_length yX0_length, Cond.code yX0_length cX0_length 2 (some .int), Cond.methodLink RL 44 yX1_length, Cond.instanceMethod yX1_length, Cond.selects RX1 yX1_length yX1_length, Cond.code yX1_length cX1_length 2 (some .int), Cond.methodLink RL 45 yX0_sign, Cond.instanceMethod yX0_sign, Cond.selects RX0 yX0_sign yX0_sign, Cond.code yX0_sign cX0_sign 3 (some .int), Cond.methodLink RL 48 yX1_sign, Cond.instanceMethod yX1_sign, Cond.selects RX1 yX1_sign yX1_sign]
def wsL_law_r7 : List Cond := [Cond.code yX1_sign cX1_sign 3 (some .int), Cond.methodLink RL 49 yX0_compare, Cond.instanceMethod yX0_compare, Cond.selects RX0 yX0_compare yX0_compare, Cond.code yX0_compare cX0_compare 3 (some .int), Cond.methodLink RX0 48 yX0_order, Cond.instanceMethod yX0_order, Cond.selects RX0 yX0_order yX0_order, Cond.code yX0_order cX0_order 7 (some .int), Cond.methodLink RX0 68 Lib.Math.min.name, Cond.static Lib.Math.min.name, Cond.initialized "java/lang/Math", Cond.code Lib.Math.min.name Lib.Math.min.code 2 (some .int), Cond.methodLink RL 52 yX1_compare, Cond.instanceMethod yX1_compare, Cond.selects RX1 yX1_compare yX1_compare, Cond.code yX1_compare cX1_compare 3 (some .int), Cond.methodLink RX1 53 yX1_order, Cond.instanceMethod yX1_order, Cond.selects RX1 yX1_order yX1_order, Cond.code yX1_order cX1_order 6 (some .int), Cond.methodLink RL 53 yX0_colon, Cond.instanceMethod yX0_colon, Cond.selects RX0 yX0_colon yX0_colon]
def wsL_law_r8 : List Cond := [Cond.code yX0_colon cX0_colon 7 (some .int), Cond.methodLink RX0 52 yX0_findColon, Cond.instanceMethod yX0_findColon, Cond.selects RX0 yX0_findColon yX0_findColon, Cond.code yX0_findColon cX0_findColon 4 (some .int), Cond.methodLink RX0 55 yX0_isNameStart, Cond.static yX0_isNameStart, Cond.code yX0_isNameStart cX0_isNameStart 2 (some .boolean), Cond.fieldLink RX0 73 "NameNumbers" "NAME_STARTS" "[I", Cond.methodLink RL 56 yX1_colon, Cond.instanceMethod yX1_colon, Cond.selects RX1 yX1_colon yX1_colon, Cond.code yX1_colon cX1_colon 6 (some .int), Cond.methodLink RX1 68 yX1_isStart, Cond.static yX1_isStart, Cond.code yX1_isStart cX1_isStart 2 (some .boolean), Cond.constant RX1 61 (55295), Cond.constant RX1 62 (63744), Cond.constant RX1 63 (64975), Cond.constant RX1 64 (65008), Cond.constant RX1 65 (65533), Cond.constant RX1 66 (65536), Cond.constant RX1 67 (983039), Cond.methodLink RX1 57 yX1_isIn]
def wsL_law_r9 : List Cond := [Cond.static yX1_isIn, Cond.code yX1_isIn cX1_isIn 3 (some .boolean), Cond.methodLink RL 57 yX0_part, Cond.instanceMethod yX0_part, Cond.selects RX0 yX0_part yX0_part, Cond.code yX0_part cX0_part 5 (some .int), Cond.methodLink RL 62 yX0_next, Cond.instanceMethod yX0_next, Cond.selects RX0 yX0_next yX0_next, Cond.code yX0_next cX0_next 4 (some .int), Cond.methodLink RL 66 yX0_clear, Cond.instanceMethod yX0_clear, Cond.selects RX0 yX0_clear yX0_clear, Cond.code yX0_clear cX0_clear 2 (some .int)]
def wsL_law : List Cond := (wsL_law_r1 ++ (wsL_law_r2 ++ (wsL_law_r3 ++ (wsL_law_r4 ++ (wsL_law_r5 ++ (wsL_law_r6 ++ (wsL_law_r7 ++ (wsL_law_r8 ++ wsL_law_r9)))))))) ++ wsX00 ++ wsX10 ++ ([] : List Cond)
set_option maxRecDepth 20000 in
theorem wsL_law_in : ∀ w ∈ wsL_law, w ∈ lw_tbl := fun w h => (goodIn_p wsL_law [23, 26, 148, 47, 181, 52, 186, 56, 60, 64, 68, 72, 76, 80, 190, 194, 198, 202, 87, 206, 91, 95, 210, 214, 99, 218, 103, 222, 107, 226, 111, 115, 118, 230, 234, 122, 126, 129, 238, 241, 244, 135, 139, 143] (by decide +kernel) (by decide +kernel) w h).1
theorem inlX0 : ∀ w ∈ wsX00, w ∈ wsL_law := fun _ h => List.mem_append_left _ (List.mem_append_left _ (List.mem_append_right _ h))
theorem inX0 : ∀ w ∈ wsX00, w ∈ lw_tbl := fun w h => wsL_law_in w (inlX0 w h)
theorem inlX1 : ∀ w ∈ wsX10, w ∈ wsL_law := fun _ h => List.mem_append_left _ (List.mem_append_right _ h)
theorem inX1 : ∀ w ∈ wsX10, w ∈ lw_tbl := fun w h => wsL_law_in w (inlX1 w h)
theorem inJ9 : ∀ w ∈ wsJ90, w ∈ lw_tbl := by decide +kernel
theorem inJ10 : ∀ w ∈ wsJ100, w ∈ lw_tbl := by decide +kernel
theorem dX0_init_0 : decode cX0_init 0 = .ok (.aload_n 0, 1) := by decide +kernel
theorem dX0_init_1 : decode cX0_init 1 = .ok (.invokespecial 1, 3) := by decide +kernel
theorem dX0_init_4 : decode cX0_init 4 = .ok (.aload_n 0, 1) := by decide +kernel
theorem dX0_init_5 : decode cX0_init 5 = .ok (.sipush 2000, 3) := by decide +kernel
theorem dX0_init_8 : decode cX0_init 8 = .ok (.newarray .int, 2) := by decide +kernel
theorem dX0_init_10 : decode cX0_init 10 = .ok (.putfield 9, 3) := by decide +kernel
theorem dX0_init_13 : decode cX0_init 13 = .ok (.aload_n 0, 1) := by decide +kernel
theorem dX0_init_14 : decode cX0_init 14 = .ok (.iconst 0, 1) := by decide +kernel
theorem dX0_init_15 : decode cX0_init 15 = .ok (.putfield 13, 3) := by decide +kernel
theorem dX0_init_18 : decode cX0_init 18 = .ok (.aload_n 0, 1) := by decide +kernel
theorem dX0_init_19 : decode cX0_init 19 = .ok (.sipush 20000, 3) := by decide +kernel
theorem dX0_init_22 : decode cX0_init 22 = .ok (.newarray .int, 2) := by decide +kernel
theorem dX0_init_24 : decode cX0_init 24 = .ok (.putfield 17, 3) := by decide +kernel
theorem dX0_init_27 : decode cX0_init 27 = .ok (.aload_n 0, 1) := by decide +kernel
theorem dX0_init_28 : decode cX0_init 28 = .ok (.sipush 3002, 3) := by decide +kernel
theorem dX0_init_31 : decode cX0_init 31 = .ok (.newarray .int, 2) := by decide +kernel
theorem dX0_init_33 : decode cX0_init 33 = .ok (.putfield 20, 3) := by decide +kernel
theorem dX0_init_36 : decode cX0_init 36 = .ok (.aload_n 0, 1) := by decide +kernel
theorem dX0_init_37 : decode cX0_init 37 = .ok (.iconst 0, 1) := by decide +kernel
theorem dX0_init_38 : decode cX0_init 38 = .ok (.putfield 23, 3) := by decide +kernel
theorem dX0_init_41 : decode cX0_init 41 = .ok (.return_, 1) := by decide +kernel
theorem dX0_write_0 : decode cX0_write 0 = .ok (.iload_n 2, 1) := by decide +kernel
theorem dX0_write_1 : decode cX0_write 1 = .ok (.ifCond .lt 10, 3) := by decide +kernel
theorem dX0_write_4 : decode cX0_write 4 = .ok (.iload_n 2, 1) := by decide +kernel
theorem dX0_write_5 : decode cX0_write 5 = .ok (.sipush 500, 3) := by decide +kernel
theorem dX0_write_8 : decode cX0_write 8 = .ok (.if_icmp .le 5, 3) := by decide +kernel
theorem dX0_write_11 : decode cX0_write 11 = .ok (.iconst (-1), 1) := by decide +kernel
theorem dX0_write_12 : decode cX0_write 12 = .ok (.ireturn, 1) := by decide +kernel
theorem dX0_write_13 : decode cX0_write 13 = .ok (.iload_n 1, 1) := by decide +kernel
theorem dX0_write_14 : decode cX0_write 14 = .ok (.ifCond .lt 11, 3) := by decide +kernel
theorem dX0_write_17 : decode cX0_write 17 = .ok (.iload_n 1, 1) := by decide +kernel
theorem dX0_write_18 : decode cX0_write 18 = .ok (.ldc 26, 2) := by decide +kernel
theorem dX0_write_20 : decode cX0_write 20 = .ok (.iload_n 2, 1) := by decide +kernel
theorem dX0_write_21 : decode cX0_write 21 = .ok (.isub, 1) := by decide +kernel
theorem dX0_write_22 : decode cX0_write 22 = .ok (.if_icmp .le 5, 3) := by decide +kernel
theorem dX0_write_25 : decode cX0_write 25 = .ok (.iconst (-1), 1) := by decide +kernel
theorem dX0_write_26 : decode cX0_write 26 = .ok (.ireturn, 1) := by decide +kernel
theorem dX0_write_27 : decode cX0_write 27 = .ok (.iload_n 2, 1) := by decide +kernel
theorem dX0_write_28 : decode cX0_write 28 = .ok (.iconst 1, 1) := by decide +kernel
theorem dX0_write_29 : decode cX0_write 29 = .ok (.iadd, 1) := by decide +kernel
theorem dX0_write_30 : decode cX0_write 30 = .ok (.sipush 2000, 3) := by decide +kernel
theorem dX0_write_33 : decode cX0_write 33 = .ok (.aload_n 0, 1) := by decide +kernel
theorem dX0_write_34 : decode cX0_write 34 = .ok (.getfield 13, 3) := by decide +kernel
theorem dX0_write_37 : decode cX0_write 37 = .ok (.isub, 1) := by decide +kernel
theorem dX0_write_38 : decode cX0_write 38 = .ok (.if_icmp .le 5, 3) := by decide +kernel
theorem dX0_write_41 : decode cX0_write 41 = .ok (.iconst (-1), 1) := by decide +kernel
theorem dX0_write_42 : decode cX0_write 42 = .ok (.ireturn, 1) := by decide +kernel
theorem dX0_write_43 : decode cX0_write 43 = .ok (.iconst 0, 1) := by decide +kernel
theorem dX0_write_44 : decode cX0_write 44 = .ok (.istore_n 3, 1) := by decide +kernel
theorem dX0_write_45 : decode cX0_write 45 = .ok (.iload_n 3, 1) := by decide +kernel
theorem dX0_write_46 : decode cX0_write 46 = .ok (.iload_n 2, 1) := by decide +kernel
theorem dX0_write_47 : decode cX0_write 47 = .ok (.if_icmp .gt 23, 3) := by decide +kernel
theorem dX0_write_50 : decode cX0_write 50 = .ok (.aload_n 0, 1) := by decide +kernel
theorem dX0_write_51 : decode cX0_write 51 = .ok (.getfield 9, 3) := by decide +kernel
theorem dX0_write_54 : decode cX0_write 54 = .ok (.aload_n 0, 1) := by decide +kernel
theorem dX0_write_55 : decode cX0_write 55 = .ok (.getfield 13, 3) := by decide +kernel
theorem dX0_write_58 : decode cX0_write 58 = .ok (.iload_n 3, 1) := by decide +kernel
theorem dX0_write_59 : decode cX0_write 59 = .ok (.iadd, 1) := by decide +kernel
theorem dX0_write_60 : decode cX0_write 60 = .ok (.iload_n 1, 1) := by decide +kernel
theorem dX0_write_61 : decode cX0_write 61 = .ok (.iload_n 3, 1) := by decide +kernel
theorem dX0_write_62 : decode cX0_write 62 = .ok (.iadd, 1) := by decide +kernel
theorem dX0_write_63 : decode cX0_write 63 = .ok (.iastore, 1) := by decide +kernel
theorem dX0_write_64 : decode cX0_write 64 = .ok (.iinc 3 1, 3) := by decide +kernel
theorem dX0_write_67 : decode cX0_write 67 = .ok (.goto (-22), 3) := by decide +kernel
theorem dX0_write_70 : decode cX0_write 70 = .ok (.aload_n 0, 1) := by decide +kernel
theorem dX0_write_71 : decode cX0_write 71 = .ok (.dup, 1) := by decide +kernel
theorem dX0_write_72 : decode cX0_write 72 = .ok (.getfield 13, 3) := by decide +kernel
theorem dX0_write_75 : decode cX0_write 75 = .ok (.iload_n 2, 1) := by decide +kernel
theorem dX0_write_76 : decode cX0_write 76 = .ok (.iconst 1, 1) := by decide +kernel
theorem dX0_write_77 : decode cX0_write 77 = .ok (.iadd, 1) := by decide +kernel
theorem dX0_write_78 : decode cX0_write 78 = .ok (.iadd, 1) := by decide +kernel
theorem dX0_write_79 : decode cX0_write 79 = .ok (.putfield 13, 3) := by decide +kernel
theorem dX0_write_82 : decode cX0_write 82 = .ok (.aload_n 0, 1) := by decide +kernel
theorem dX0_write_83 : decode cX0_write 83 = .ok (.getfield 13, 3) := by decide +kernel
theorem dX0_write_86 : decode cX0_write 86 = .ok (.ireturn, 1) := by decide +kernel
theorem dX0_cut_0 : decode cX0_cut 0 = .ok (.iload_n 1, 1) := by decide +kernel
theorem dX0_cut_1 : decode cX0_cut 1 = .ok (.ifCond .lt 11, 3) := by decide +kernel
theorem dX0_cut_4 : decode cX0_cut 4 = .ok (.iload_n 1, 1) := by decide +kernel
theorem dX0_cut_5 : decode cX0_cut 5 = .ok (.aload_n 0, 1) := by decide +kernel
theorem dX0_cut_6 : decode cX0_cut 6 = .ok (.getfield 13, 3) := by decide +kernel
theorem dX0_cut_9 : decode cX0_cut 9 = .ok (.if_icmp .le 5, 3) := by decide +kernel
theorem dX0_cut_12 : decode cX0_cut 12 = .ok (.iconst (-1), 1) := by decide +kernel
theorem dX0_cut_13 : decode cX0_cut 13 = .ok (.ireturn, 1) := by decide +kernel
theorem dX0_cut_14 : decode cX0_cut 14 = .ok (.aload_n 0, 1) := by decide +kernel
theorem dX0_cut_15 : decode cX0_cut 15 = .ok (.getfield 13, 3) := by decide +kernel
theorem dX0_cut_18 : decode cX0_cut 18 = .ok (.istore_n 2, 1) := by decide +kernel
theorem dX0_cut_19 : decode cX0_cut 19 = .ok (.aload_n 0, 1) := by decide +kernel
theorem dX0_cut_20 : decode cX0_cut 20 = .ok (.iload_n 1, 1) := by decide +kernel
theorem dX0_cut_21 : decode cX0_cut 21 = .ok (.putfield 13, 3) := by decide +kernel
theorem dX0_cut_24 : decode cX0_cut 24 = .ok (.iload_n 2, 1) := by decide +kernel
theorem dX0_cut_25 : decode cX0_cut 25 = .ok (.ireturn, 1) := by decide +kernel
set_option maxRecDepth 20000 in
theorem ggX0_number_X0_numberOf : GoodIn wsX0_number wsX0_numberOf := goodIn_r _ [7, 8, 9, 10, 6, 11, 12, 13, 14, 15, 16, 17, 18, 19, 20, 21, 22, 23, 24, 25, 26, 27, 28, 29, 30, 31, 32, 33, 34, 35, 36, 37, 38, 39] (by decide +kernel) (by decide +kernel)
set_option maxRecDepth 20000 in
theorem gX0_number_X0_numberOf : GoodIn wsX0_number (wsV RX0 27 RX0 yX0_numberOf wsX0_numberOf) := goodIn_app (goodIn_of _ (by decide +kernel)) ggX0_number_X0_numberOf
theorem dX0_number_0 : decode cX0_number 0 = .ok (.aload_n 0, 1) := by decide +kernel
theorem dX0_number_1 : decode cX0_number 1 = .ok (.aload_n 0, 1) := by decide +kernel
theorem dX0_number_2 : decode cX0_number 2 = .ok (.getfield 9, 3) := by decide +kernel
theorem dX0_number_5 : decode cX0_number 5 = .ok (.iconst 0, 1) := by decide +kernel
theorem dX0_number_6 : decode cX0_number 6 = .ok (.aload_n 0, 1) := by decide +kernel
theorem dX0_number_7 : decode cX0_number 7 = .ok (.getfield 13, 3) := by decide +kernel
theorem dX0_number_10 : decode cX0_number 10 = .ok (.invokevirtual 27, 3) := by decide +kernel
theorem dX0_number_13 : decode cX0_number 13 = .ok (.istore_n 1, 1) := by decide +kernel
theorem dX0_number_14 : decode cX0_number 14 = .ok (.iload_n 1, 1) := by decide +kernel
theorem dX0_number_15 : decode cX0_number 15 = .ok (.iconst (-1), 1) := by decide +kernel
theorem dX0_number_16 : decode cX0_number 16 = .ok (.if_icmp .eq 8, 3) := by decide +kernel
theorem dX0_number_19 : decode cX0_number 19 = .ok (.aload_n 0, 1) := by decide +kernel
theorem dX0_number_20 : decode cX0_number 20 = .ok (.iconst 0, 1) := by decide +kernel
theorem dX0_number_21 : decode cX0_number 21 = .ok (.putfield 13, 3) := by decide +kernel
theorem dX0_number_24 : decode cX0_number 24 = .ok (.iload_n 1, 1) := by decide +kernel
theorem dX0_number_25 : decode cX0_number 25 = .ok (.ireturn, 1) := by decide +kernel
set_option maxRecDepth 20000 in
theorem ggX0_isKnown_X0_find : GoodIn wsX0_isKnown wsX0_find := goodIn_r _ [7, 8, 9, 10, 11, 6, 12, 13, 14, 15, 16, 17, 18, 19, 20, 21, 22, 23] (by decide +kernel) (by decide +kernel)
set_option maxRecDepth 20000 in
theorem gX0_isKnown_X0_find : GoodIn wsX0_isKnown (wsV RX0 31 RX0 yX0_find wsX0_find) := goodIn_app (goodIn_of _ (by decide +kernel)) ggX0_isKnown_X0_find
theorem dX0_isKnown_0 : decode cX0_isKnown 0 = .ok (.aload_n 0, 1) := by decide +kernel
theorem dX0_isKnown_1 : decode cX0_isKnown 1 = .ok (.aload_n 0, 1) := by decide +kernel
theorem dX0_isKnown_2 : decode cX0_isKnown 2 = .ok (.getfield 9, 3) := by decide +kernel
theorem dX0_isKnown_5 : decode cX0_isKnown 5 = .ok (.iconst 0, 1) := by decide +kernel
theorem dX0_isKnown_6 : decode cX0_isKnown 6 = .ok (.aload_n 0, 1) := by decide +kernel
theorem dX0_isKnown_7 : decode cX0_isKnown 7 = .ok (.getfield 13, 3) := by decide +kernel
theorem dX0_isKnown_10 : decode cX0_isKnown 10 = .ok (.invokevirtual 31, 3) := by decide +kernel
theorem dX0_isKnown_13 : decode cX0_isKnown 13 = .ok (.iconst (-1), 1) := by decide +kernel
theorem dX0_isKnown_14 : decode cX0_isKnown 14 = .ok (.if_icmp .eq 7, 3) := by decide +kernel
theorem dX0_isKnown_17 : decode cX0_isKnown 17 = .ok (.iconst 1, 1) := by decide +kernel
theorem dX0_isKnown_18 : decode cX0_isKnown 18 = .ok (.goto 4, 3) := by decide +kernel
theorem dX0_isKnown_21 : decode cX0_isKnown 21 = .ok (.iconst 0, 1) := by decide +kernel
theorem dX0_isKnown_22 : decode cX0_isKnown 22 = .ok (.ireturn, 1) := by decide +kernel
set_option maxRecDepth 20000 in
theorem ggX0_take_X0_isRow : GoodIn wsX0_take wsX0_isRow := goodIn_r _ [13, 14, 19, 20, 21, 22, 23] (by decide +kernel) (by decide +kernel)
set_option maxRecDepth 20000 in
theorem gX0_take_X0_isRow : GoodIn wsX0_take (wsV RX0 34 RX0 yX0_isRow wsX0_isRow) := goodIn_app (goodIn_of _ (by decide +kernel)) ggX0_take_X0_isRow
set_option maxRecDepth 20000 in
theorem ggX0_take_X0_lengthOf : GoodIn wsX0_take wsX0_lengthOf := goodIn_r _ [18, 3, 19, 20, 21, 22, 23] (by decide +kernel) (by decide +kernel)
set_option maxRecDepth 20000 in
theorem gX0_take_X0_lengthOf : GoodIn wsX0_take (wsV RX0 38 RX0 yX0_lengthOf wsX0_lengthOf) := goodIn_app (goodIn_of _ (by decide +kernel)) ggX0_take_X0_lengthOf
theorem dX0_take_0 : decode cX0_take 0 = .ok (.aload_n 0, 1) := by decide +kernel
theorem dX0_take_1 : decode cX0_take 1 = .ok (.iload_n 1, 1) := by decide +kernel
theorem dX0_take_2 : decode cX0_take 2 = .ok (.invokevirtual 34, 3) := by decide +kernel
theorem dX0_take_5 : decode cX0_take 5 = .ok (.ifCond .ne 5, 3) := by decide +kernel
theorem dX0_take_8 : decode cX0_take 8 = .ok (.iconst (-1), 1) := by decide +kernel
theorem dX0_take_9 : decode cX0_take 9 = .ok (.ireturn, 1) := by decide +kernel
theorem dX0_take_10 : decode cX0_take 10 = .ok (.aload_n 0, 1) := by decide +kernel
theorem dX0_take_11 : decode cX0_take 11 = .ok (.iload_n 1, 1) := by decide +kernel
theorem dX0_take_12 : decode cX0_take 12 = .ok (.invokevirtual 38, 3) := by decide +kernel
theorem dX0_take_15 : decode cX0_take 15 = .ok (.istore_n 2, 1) := by decide +kernel
theorem dX0_take_16 : decode cX0_take 16 = .ok (.iload_n 2, 1) := by decide +kernel
theorem dX0_take_17 : decode cX0_take 17 = .ok (.sipush 2000, 3) := by decide +kernel
theorem dX0_take_20 : decode cX0_take 20 = .ok (.aload_n 0, 1) := by decide +kernel
theorem dX0_take_21 : decode cX0_take 21 = .ok (.getfield 13, 3) := by decide +kernel
theorem dX0_take_24 : decode cX0_take 24 = .ok (.isub, 1) := by decide +kernel
theorem dX0_take_25 : decode cX0_take 25 = .ok (.if_icmp .le 5, 3) := by decide +kernel
theorem dX0_take_28 : decode cX0_take 28 = .ok (.iconst (-1), 1) := by decide +kernel
theorem dX0_take_29 : decode cX0_take 29 = .ok (.ireturn, 1) := by decide +kernel
theorem dX0_take_30 : decode cX0_take 30 = .ok (.aload_n 0, 1) := by decide +kernel
theorem dX0_take_31 : decode cX0_take 31 = .ok (.getfield 17, 3) := by decide +kernel
theorem dX0_take_34 : decode cX0_take 34 = .ok (.aload_n 0, 1) := by decide +kernel
theorem dX0_take_35 : decode cX0_take 35 = .ok (.getfield 20, 3) := by decide +kernel
theorem dX0_take_38 : decode cX0_take 38 = .ok (.iload_n 1, 1) := by decide +kernel
theorem dX0_take_39 : decode cX0_take 39 = .ok (.iaload, 1) := by decide +kernel
theorem dX0_take_40 : decode cX0_take 40 = .ok (.aload_n 0, 1) := by decide +kernel
theorem dX0_take_41 : decode cX0_take 41 = .ok (.getfield 9, 3) := by decide +kernel
theorem dX0_take_44 : decode cX0_take 44 = .ok (.aload_n 0, 1) := by decide +kernel
theorem dX0_take_45 : decode cX0_take 45 = .ok (.getfield 13, 3) := by decide +kernel
theorem dX0_take_48 : decode cX0_take 48 = .ok (.iload_n 2, 1) := by decide +kernel
theorem dX0_take_49 : decode cX0_take 49 = .ok (.invokestatic 42, 3) := by decide +kernel
theorem dX0_take_52 : decode cX0_take 52 = .ok (.aload_n 0, 1) := by decide +kernel
theorem dX0_take_53 : decode cX0_take 53 = .ok (.dup, 1) := by decide +kernel
theorem dX0_take_54 : decode cX0_take 54 = .ok (.getfield 13, 3) := by decide +kernel
theorem dX0_take_57 : decode cX0_take 57 = .ok (.iload_n 2, 1) := by decide +kernel
theorem dX0_take_58 : decode cX0_take 58 = .ok (.iadd, 1) := by decide +kernel
theorem dX0_take_59 : decode cX0_take 59 = .ok (.putfield 13, 3) := by decide +kernel
theorem dX0_take_62 : decode cX0_take 62 = .ok (.aload_n 0, 1) := by decide +kernel
theorem dX0_take_63 : decode cX0_take 63 = .ok (.getfield 13, 3) := by decide +kernel
theorem dX0_take_66 : decode cX0_take 66 = .ok (.ireturn, 1) := by decide +kernel
theorem dX0_rows_0 : decode cX0_rows 0 = .ok (.aload_n 0, 1) := by decide +kernel
theorem dX0_rows_1 : decode cX0_rows 1 = .ok (.getfield 23, 3) := by decide +kernel
theorem dX0_rows_4 : decode cX0_rows 4 = .ok (.ireturn, 1) := by decide +kernel
set_option maxRecDepth 20000 in
theorem ggX0_length_X0_isRow : GoodIn wsX0_length wsX0_isRow := goodIn_r _ [5, 6, 12, 13, 14, 15, 16] (by decide +kernel) (by decide +kernel)
set_option maxRecDepth 20000 in
theorem gX0_length_X0_isRow : GoodIn wsX0_length (wsV RX0 34 RX0 yX0_isRow wsX0_isRow) := goodIn_app (goodIn_of _ (by decide +kernel)) ggX0_length_X0_isRow
set_option maxRecDepth 20000 in
theorem ggX0_length_X0_lengthOf : GoodIn wsX0_length wsX0_lengthOf := goodIn_r _ [10, 11, 12, 13, 14, 15, 16] (by decide +kernel) (by decide +kernel)
set_option maxRecDepth 20000 in
theorem gX0_length_X0_lengthOf : GoodIn wsX0_length (wsV RX0 38 RX0 yX0_lengthOf wsX0_lengthOf) := goodIn_app (goodIn_of _ (by decide +kernel)) ggX0_length_X0_lengthOf
theorem dX0_length_0 : decode cX0_length 0 = .ok (.aload_n 0, 1) := by decide +kernel
theorem dX0_length_1 : decode cX0_length 1 = .ok (.iload_n 1, 1) := by decide +kernel
theorem dX0_length_2 : decode cX0_length 2 = .ok (.invokevirtual 34, 3) := by decide +kernel
theorem dX0_length_5 : decode cX0_length 5 = .ok (.ifCond .eq 11, 3) := by decide +kernel
theorem dX0_length_8 : decode cX0_length 8 = .ok (.aload_n 0, 1) := by decide +kernel
theorem dX0_length_9 : decode cX0_length 9 = .ok (.iload_n 1, 1) := by decide +kernel
theorem dX0_length_10 : decode cX0_length 10 = .ok (.invokevirtual 38, 3) := by decide +kernel
theorem dX0_length_13 : decode cX0_length 13 = .ok (.goto 4, 3) := by decide +kernel
theorem dX0_length_16 : decode cX0_length 16 = .ok (.iconst (-1), 1) := by decide +kernel
theorem dX0_length_17 : decode cX0_length 17 = .ok (.ireturn, 1) := by decide +kernel
set_option maxRecDepth 20000 in
theorem ggX0_sign_X0_isRow : GoodIn wsX0_sign wsX0_isRow := goodIn_r _ [7, 8, 13, 14, 15, 16, 17] (by decide +kernel) (by decide +kernel)
set_option maxRecDepth 20000 in
theorem gX0_sign_X0_isRow : GoodIn wsX0_sign (wsV RX0 34 RX0 yX0_isRow wsX0_isRow) := goodIn_app (goodIn_of _ (by decide +kernel)) ggX0_sign_X0_isRow
set_option maxRecDepth 20000 in
theorem ggX0_sign_X0_lengthOf : GoodIn wsX0_sign wsX0_lengthOf := goodIn_r _ [12, 2, 13, 14, 15, 16, 17] (by decide +kernel) (by decide +kernel)
set_option maxRecDepth 20000 in
theorem gX0_sign_X0_lengthOf : GoodIn wsX0_sign (wsV RX0 38 RX0 yX0_lengthOf wsX0_lengthOf) := goodIn_app (goodIn_of _ (by decide +kernel)) ggX0_sign_X0_lengthOf
theorem dX0_sign_0 : decode cX0_sign 0 = .ok (.aload_n 0, 1) := by decide +kernel
theorem dX0_sign_1 : decode cX0_sign 1 = .ok (.iload_n 1, 1) := by decide +kernel
theorem dX0_sign_2 : decode cX0_sign 2 = .ok (.invokevirtual 34, 3) := by decide +kernel
theorem dX0_sign_5 : decode cX0_sign 5 = .ok (.ifCond .eq 16, 3) := by decide +kernel
theorem dX0_sign_8 : decode cX0_sign 8 = .ok (.iload_n 2, 1) := by decide +kernel
theorem dX0_sign_9 : decode cX0_sign 9 = .ok (.ifCond .lt 12, 3) := by decide +kernel
theorem dX0_sign_12 : decode cX0_sign 12 = .ok (.iload_n 2, 1) := by decide +kernel
theorem dX0_sign_13 : decode cX0_sign 13 = .ok (.aload_n 0, 1) := by decide +kernel
theorem dX0_sign_14 : decode cX0_sign 14 = .ok (.iload_n 1, 1) := by decide +kernel
theorem dX0_sign_15 : decode cX0_sign 15 = .ok (.invokevirtual 38, 3) := by decide +kernel
theorem dX0_sign_18 : decode cX0_sign 18 = .ok (.if_icmp .lt 5, 3) := by decide +kernel
theorem dX0_sign_21 : decode cX0_sign 21 = .ok (.iconst (-1), 1) := by decide +kernel
theorem dX0_sign_22 : decode cX0_sign 22 = .ok (.ireturn, 1) := by decide +kernel
theorem dX0_sign_23 : decode cX0_sign 23 = .ok (.aload_n 0, 1) := by decide +kernel
theorem dX0_sign_24 : decode cX0_sign 24 = .ok (.getfield 17, 3) := by decide +kernel
theorem dX0_sign_27 : decode cX0_sign 27 = .ok (.aload_n 0, 1) := by decide +kernel
theorem dX0_sign_28 : decode cX0_sign 28 = .ok (.getfield 20, 3) := by decide +kernel
theorem dX0_sign_31 : decode cX0_sign 31 = .ok (.iload_n 1, 1) := by decide +kernel
theorem dX0_sign_32 : decode cX0_sign 32 = .ok (.iaload, 1) := by decide +kernel
theorem dX0_sign_33 : decode cX0_sign 33 = .ok (.iload_n 2, 1) := by decide +kernel
theorem dX0_sign_34 : decode cX0_sign 34 = .ok (.iadd, 1) := by decide +kernel
theorem dX0_sign_35 : decode cX0_sign 35 = .ok (.iaload, 1) := by decide +kernel
theorem dX0_sign_36 : decode cX0_sign 36 = .ok (.ireturn, 1) := by decide +kernel
set_option maxRecDepth 20000 in
theorem ggX0_compare_X0_isRow : GoodIn wsX0_compare wsX0_isRow := goodIn_r _ [5, 6, 21, 22, 23, 24, 25] (by decide +kernel) (by decide +kernel)
set_option maxRecDepth 20000 in
theorem gX0_compare_X0_isRow : GoodIn wsX0_compare (wsV RX0 34 RX0 yX0_isRow wsX0_isRow) := goodIn_app (goodIn_of _ (by decide +kernel)) ggX0_compare_X0_isRow
set_option maxRecDepth 20000 in
theorem ggX0_compare_X0_order : GoodIn wsX0_compare wsX0_order := goodIn_r _ [10, 11, 12, 13, 14, 15, 16, 17, 18, 19, 4, 20, 21, 22, 23, 24, 25] (by decide +kernel) (by decide +kernel)
set_option maxRecDepth 20000 in
theorem gX0_compare_X0_order : GoodIn wsX0_compare (wsV RX0 48 RX0 yX0_order wsX0_order) := goodIn_app (goodIn_of _ (by decide +kernel)) ggX0_compare_X0_order
theorem dX0_compare_0 : decode cX0_compare 0 = .ok (.aload_n 0, 1) := by decide +kernel
theorem dX0_compare_1 : decode cX0_compare 1 = .ok (.iload_n 1, 1) := by decide +kernel
theorem dX0_compare_2 : decode cX0_compare 2 = .ok (.invokevirtual 34, 3) := by decide +kernel
theorem dX0_compare_5 : decode cX0_compare 5 = .ok (.ifCond .eq 11, 3) := by decide +kernel
theorem dX0_compare_8 : decode cX0_compare 8 = .ok (.aload_n 0, 1) := by decide +kernel
theorem dX0_compare_9 : decode cX0_compare 9 = .ok (.iload_n 2, 1) := by decide +kernel
theorem dX0_compare_10 : decode cX0_compare 10 = .ok (.invokevirtual 34, 3) := by decide +kernel
theorem dX0_compare_13 : decode cX0_compare 13 = .ok (.ifCond .ne 6, 3) := by decide +kernel
theorem dX0_compare_16 : decode cX0_compare 16 = .ok (.bipush (-2), 2) := by decide +kernel
theorem dX0_compare_18 : decode cX0_compare 18 = .ok (.ireturn, 1) := by decide +kernel
theorem dX0_compare_19 : decode cX0_compare 19 = .ok (.aload_n 0, 1) := by decide +kernel
theorem dX0_compare_20 : decode cX0_compare 20 = .ok (.iload_n 1, 1) := by decide +kernel
theorem dX0_compare_21 : decode cX0_compare 21 = .ok (.iload_n 2, 1) := by decide +kernel
theorem dX0_compare_22 : decode cX0_compare 22 = .ok (.invokevirtual 48, 3) := by decide +kernel
theorem dX0_compare_25 : decode cX0_compare 25 = .ok (.ireturn, 1) := by decide +kernel
set_option maxRecDepth 20000 in
theorem ggX0_colon_X0_isRow : GoodIn wsX0_colon wsX0_isRow := goodIn_r _ [7, 8, 17, 18, 19, 20, 21] (by decide +kernel) (by decide +kernel)
set_option maxRecDepth 20000 in
theorem gX0_colon_X0_isRow : GoodIn wsX0_colon (wsV RX0 34 RX0 yX0_isRow wsX0_isRow) := goodIn_app (goodIn_of _ (by decide +kernel)) ggX0_colon_X0_isRow
set_option maxRecDepth 20000 in
theorem ggX0_colon_X0_findColon : GoodIn wsX0_colon wsX0_findColon := goodIn_r _ [12, 2, 17, 18, 19, 20, 21] (by decide +kernel) (by decide +kernel)
set_option maxRecDepth 20000 in
theorem gX0_colon_X0_findColon : GoodIn wsX0_colon (wsV RX0 52 RX0 yX0_findColon wsX0_findColon) := goodIn_app (goodIn_of _ (by decide +kernel)) ggX0_colon_X0_findColon
set_option maxRecDepth 20000 in
theorem ggX0_colon_X0_isNameStart : GoodIn wsX0_colon wsX0_isNameStart := goodIn_r _ [15, 16] (by decide +kernel) (by decide +kernel)
set_option maxRecDepth 20000 in
theorem gX0_colon_X0_isNameStart : GoodIn wsX0_colon (va_wsS RX0 55 yX0_isNameStart wsX0_isNameStart) := goodIn_app (goodIn_of _ (by decide +kernel)) ggX0_colon_X0_isNameStart
theorem dX0_colon_0 : decode cX0_colon 0 = .ok (.aload_n 0, 1) := by decide +kernel
theorem dX0_colon_1 : decode cX0_colon 1 = .ok (.iload_n 1, 1) := by decide +kernel
theorem dX0_colon_2 : decode cX0_colon 2 = .ok (.invokevirtual 34, 3) := by decide +kernel
theorem dX0_colon_5 : decode cX0_colon 5 = .ok (.ifCond .ne 6, 3) := by decide +kernel
theorem dX0_colon_8 : decode cX0_colon 8 = .ok (.bipush (-2), 2) := by decide +kernel
theorem dX0_colon_10 : decode cX0_colon 10 = .ok (.ireturn, 1) := by decide +kernel
theorem dX0_colon_11 : decode cX0_colon 11 = .ok (.aload_n 0, 1) := by decide +kernel
theorem dX0_colon_12 : decode cX0_colon 12 = .ok (.getfield 20, 3) := by decide +kernel
theorem dX0_colon_15 : decode cX0_colon 15 = .ok (.iload_n 1, 1) := by decide +kernel
theorem dX0_colon_16 : decode cX0_colon 16 = .ok (.iaload, 1) := by decide +kernel
theorem dX0_colon_17 : decode cX0_colon 17 = .ok (.istore_n 2, 1) := by decide +kernel
theorem dX0_colon_18 : decode cX0_colon 18 = .ok (.aload_n 0, 1) := by decide +kernel
theorem dX0_colon_19 : decode cX0_colon 19 = .ok (.getfield 20, 3) := by decide +kernel
theorem dX0_colon_22 : decode cX0_colon 22 = .ok (.iload_n 1, 1) := by decide +kernel
theorem dX0_colon_23 : decode cX0_colon 23 = .ok (.iconst 1, 1) := by decide +kernel
theorem dX0_colon_24 : decode cX0_colon 24 = .ok (.iadd, 1) := by decide +kernel
theorem dX0_colon_25 : decode cX0_colon 25 = .ok (.iaload, 1) := by decide +kernel
theorem dX0_colon_26 : decode cX0_colon 26 = .ok (.istore_n 3, 1) := by decide +kernel
theorem dX0_colon_27 : decode cX0_colon 27 = .ok (.aload_n 0, 1) := by decide +kernel
theorem dX0_colon_28 : decode cX0_colon 28 = .ok (.iload_n 2, 1) := by decide +kernel
theorem dX0_colon_29 : decode cX0_colon 29 = .ok (.iload_n 3, 1) := by decide +kernel
theorem dX0_colon_30 : decode cX0_colon 30 = .ok (.invokevirtual 52, 3) := by decide +kernel
theorem dX0_colon_33 : decode cX0_colon 33 = .ok (.istore 4, 2) := by decide +kernel
theorem dX0_colon_35 : decode cX0_colon 35 = .ok (.iload 4, 2) := by decide +kernel
theorem dX0_colon_37 : decode cX0_colon 37 = .ok (.iload_n 3, 1) := by decide +kernel
theorem dX0_colon_38 : decode cX0_colon 38 = .ok (.if_icmp .ne 5, 3) := by decide +kernel
theorem dX0_colon_41 : decode cX0_colon 41 = .ok (.iconst 0, 1) := by decide +kernel
theorem dX0_colon_42 : decode cX0_colon 42 = .ok (.ireturn, 1) := by decide +kernel
theorem dX0_colon_43 : decode cX0_colon 43 = .ok (.aload_n 0, 1) := by decide +kernel
theorem dX0_colon_44 : decode cX0_colon 44 = .ok (.iload 4, 2) := by decide +kernel
theorem dX0_colon_46 : decode cX0_colon 46 = .ok (.iconst 1, 1) := by decide +kernel
theorem dX0_colon_47 : decode cX0_colon 47 = .ok (.iadd, 1) := by decide +kernel
theorem dX0_colon_48 : decode cX0_colon 48 = .ok (.iload_n 3, 1) := by decide +kernel
theorem dX0_colon_49 : decode cX0_colon 49 = .ok (.invokevirtual 52, 3) := by decide +kernel
theorem dX0_colon_52 : decode cX0_colon 52 = .ok (.iload_n 3, 1) := by decide +kernel
theorem dX0_colon_53 : decode cX0_colon 53 = .ok (.if_icmp .ne 7, 3) := by decide +kernel
theorem dX0_colon_56 : decode cX0_colon 56 = .ok (.iconst 1, 1) := by decide +kernel
theorem dX0_colon_57 : decode cX0_colon 57 = .ok (.goto 4, 3) := by decide +kernel
theorem dX0_colon_60 : decode cX0_colon 60 = .ok (.iconst 0, 1) := by decide +kernel
theorem dX0_colon_61 : decode cX0_colon 61 = .ok (.istore 5, 2) := by decide +kernel
theorem dX0_colon_63 : decode cX0_colon 63 = .ok (.iload 4, 2) := by decide +kernel
theorem dX0_colon_65 : decode cX0_colon 65 = .ok (.iload_n 2, 1) := by decide +kernel
theorem dX0_colon_66 : decode cX0_colon 66 = .ok (.if_icmp .le 30, 3) := by decide +kernel
theorem dX0_colon_69 : decode cX0_colon 69 = .ok (.iload 4, 2) := by decide +kernel
theorem dX0_colon_71 : decode cX0_colon 71 = .ok (.iconst 1, 1) := by decide +kernel
theorem dX0_colon_72 : decode cX0_colon 72 = .ok (.iadd, 1) := by decide +kernel
theorem dX0_colon_73 : decode cX0_colon 73 = .ok (.iload_n 3, 1) := by decide +kernel
theorem dX0_colon_74 : decode cX0_colon 74 = .ok (.if_icmp .ge 22, 3) := by decide +kernel
theorem dX0_colon_77 : decode cX0_colon 77 = .ok (.aload_n 0, 1) := by decide +kernel
theorem dX0_colon_78 : decode cX0_colon 78 = .ok (.getfield 17, 3) := by decide +kernel
theorem dX0_colon_81 : decode cX0_colon 81 = .ok (.iload 4, 2) := by decide +kernel
theorem dX0_colon_83 : decode cX0_colon 83 = .ok (.iconst 1, 1) := by decide +kernel
theorem dX0_colon_84 : decode cX0_colon 84 = .ok (.iadd, 1) := by decide +kernel
theorem dX0_colon_85 : decode cX0_colon 85 = .ok (.iaload, 1) := by decide +kernel
theorem dX0_colon_86 : decode cX0_colon 86 = .ok (.invokestatic 55, 3) := by decide +kernel
theorem dX0_colon_89 : decode cX0_colon 89 = .ok (.ifCond .eq 7, 3) := by decide +kernel
theorem dX0_colon_92 : decode cX0_colon 92 = .ok (.iconst 1, 1) := by decide +kernel
theorem dX0_colon_93 : decode cX0_colon 93 = .ok (.goto 4, 3) := by decide +kernel
theorem dX0_colon_96 : decode cX0_colon 96 = .ok (.iconst 0, 1) := by decide +kernel
theorem dX0_colon_97 : decode cX0_colon 97 = .ok (.istore 6, 2) := by decide +kernel
theorem dX0_colon_99 : decode cX0_colon 99 = .ok (.iload 5, 2) := by decide +kernel
theorem dX0_colon_101 : decode cX0_colon 101 = .ok (.ifCond .eq 15, 3) := by decide +kernel
theorem dX0_colon_104 : decode cX0_colon 104 = .ok (.iload 6, 2) := by decide +kernel
theorem dX0_colon_106 : decode cX0_colon 106 = .ok (.ifCond .eq 10, 3) := by decide +kernel
theorem dX0_colon_109 : decode cX0_colon 109 = .ok (.iload 4, 2) := by decide +kernel
theorem dX0_colon_111 : decode cX0_colon 111 = .ok (.iload_n 2, 1) := by decide +kernel
theorem dX0_colon_112 : decode cX0_colon 112 = .ok (.isub, 1) := by decide +kernel
theorem dX0_colon_113 : decode cX0_colon 113 = .ok (.goto 4, 3) := by decide +kernel
theorem dX0_colon_116 : decode cX0_colon 116 = .ok (.iconst (-1), 1) := by decide +kernel
theorem dX0_colon_117 : decode cX0_colon 117 = .ok (.ireturn, 1) := by decide +kernel
set_option maxRecDepth 20000 in
theorem ggX0_part_X0_isRow : GoodIn wsX0_part wsX0_isRow := goodIn_r _ [7, 8, 37, 38, 39, 40, 41] (by decide +kernel) (by decide +kernel)
set_option maxRecDepth 20000 in
theorem gX0_part_X0_isRow : GoodIn wsX0_part (wsV RX0 34 RX0 yX0_isRow wsX0_isRow) := goodIn_app (goodIn_of _ (by decide +kernel)) ggX0_part_X0_isRow
set_option maxRecDepth 20000 in
theorem ggX0_part_X0_lengthOf : GoodIn wsX0_part wsX0_lengthOf := goodIn_r _ [12, 2, 37, 38, 39, 40, 41] (by decide +kernel) (by decide +kernel)
set_option maxRecDepth 20000 in
theorem gX0_part_X0_lengthOf : GoodIn wsX0_part (wsV RX0 38 RX0 yX0_lengthOf wsX0_lengthOf) := goodIn_app (goodIn_of _ (by decide +kernel)) ggX0_part_X0_lengthOf
set_option maxRecDepth 20000 in
theorem ggX0_part_X0_numberOf : GoodIn wsX0_part wsX0_numberOf := goodIn_r _ [16, 17, 18, 19, 6, 20, 8, 9, 10, 11, 12, 2, 21, 22, 23, 24, 1, 25, 26, 27, 28, 29, 30, 31, 32, 33, 34, 35, 36, 37, 38, 39, 40, 41] (by decide +kernel) (by decide +kernel)
set_option maxRecDepth 20000 in
theorem gX0_part_X0_numberOf : GoodIn wsX0_part (wsV RX0 27 RX0 yX0_numberOf wsX0_numberOf) := goodIn_app (goodIn_of _ (by decide +kernel)) ggX0_part_X0_numberOf
theorem dX0_part_0 : decode cX0_part 0 = .ok (.aload_n 0, 1) := by decide +kernel
theorem dX0_part_1 : decode cX0_part 1 = .ok (.iload_n 1, 1) := by decide +kernel
theorem dX0_part_2 : decode cX0_part 2 = .ok (.invokevirtual 34, 3) := by decide +kernel
theorem dX0_part_5 : decode cX0_part 5 = .ok (.ifCond .ne 5, 3) := by decide +kernel
theorem dX0_part_8 : decode cX0_part 8 = .ok (.iconst (-1), 1) := by decide +kernel
theorem dX0_part_9 : decode cX0_part 9 = .ok (.ireturn, 1) := by decide +kernel
theorem dX0_part_10 : decode cX0_part 10 = .ok (.aload_n 0, 1) := by decide +kernel
theorem dX0_part_11 : decode cX0_part 11 = .ok (.iload_n 1, 1) := by decide +kernel
theorem dX0_part_12 : decode cX0_part 12 = .ok (.invokevirtual 38, 3) := by decide +kernel
theorem dX0_part_15 : decode cX0_part 15 = .ok (.istore 4, 2) := by decide +kernel
theorem dX0_part_17 : decode cX0_part 17 = .ok (.iload_n 2, 1) := by decide +kernel
theorem dX0_part_18 : decode cX0_part 18 = .ok (.ifCond .lt 21, 3) := by decide +kernel
theorem dX0_part_21 : decode cX0_part 21 = .ok (.iload_n 2, 1) := by decide +kernel
theorem dX0_part_22 : decode cX0_part 22 = .ok (.iload 4, 2) := by decide +kernel
theorem dX0_part_24 : decode cX0_part 24 = .ok (.if_icmp .gt 15, 3) := by decide +kernel
theorem dX0_part_27 : decode cX0_part 27 = .ok (.iload_n 3, 1) := by decide +kernel
theorem dX0_part_28 : decode cX0_part 28 = .ok (.ifCond .lt 11, 3) := by decide +kernel
theorem dX0_part_31 : decode cX0_part 31 = .ok (.iload_n 3, 1) := by decide +kernel
theorem dX0_part_32 : decode cX0_part 32 = .ok (.iload 4, 2) := by decide +kernel
theorem dX0_part_34 : decode cX0_part 34 = .ok (.iload_n 2, 1) := by decide +kernel
theorem dX0_part_35 : decode cX0_part 35 = .ok (.isub, 1) := by decide +kernel
theorem dX0_part_36 : decode cX0_part 36 = .ok (.if_icmp .le 5, 3) := by decide +kernel
theorem dX0_part_39 : decode cX0_part 39 = .ok (.iconst (-1), 1) := by decide +kernel
theorem dX0_part_40 : decode cX0_part 40 = .ok (.ireturn, 1) := by decide +kernel
theorem dX0_part_41 : decode cX0_part 41 = .ok (.aload_n 0, 1) := by decide +kernel
theorem dX0_part_42 : decode cX0_part 42 = .ok (.aload_n 0, 1) := by decide +kernel
theorem dX0_part_43 : decode cX0_part 43 = .ok (.getfield 17, 3) := by decide +kernel
theorem dX0_part_46 : decode cX0_part 46 = .ok (.aload_n 0, 1) := by decide +kernel
theorem dX0_part_47 : decode cX0_part 47 = .ok (.getfield 20, 3) := by decide +kernel
theorem dX0_part_50 : decode cX0_part 50 = .ok (.iload_n 1, 1) := by decide +kernel
theorem dX0_part_51 : decode cX0_part 51 = .ok (.iaload, 1) := by decide +kernel
theorem dX0_part_52 : decode cX0_part 52 = .ok (.iload_n 2, 1) := by decide +kernel
theorem dX0_part_53 : decode cX0_part 53 = .ok (.iadd, 1) := by decide +kernel
theorem dX0_part_54 : decode cX0_part 54 = .ok (.iload_n 3, 1) := by decide +kernel
theorem dX0_part_55 : decode cX0_part 55 = .ok (.invokevirtual 27, 3) := by decide +kernel
theorem dX0_part_58 : decode cX0_part 58 = .ok (.ireturn, 1) := by decide +kernel
set_option maxRecDepth 20000 in
theorem ggX0_next_X0_isRow : GoodIn wsX0_next wsX0_isRow := goodIn_r _ [6, 1, 21, 22, 23, 24, 25] (by decide +kernel) (by decide +kernel)
set_option maxRecDepth 20000 in
theorem gX0_next_X0_isRow : GoodIn wsX0_next (wsV RX0 34 RX0 yX0_isRow wsX0_isRow) := goodIn_app (goodIn_of _ (by decide +kernel)) ggX0_next_X0_isRow
set_option maxRecDepth 20000 in
theorem ggX0_next_X0_order : GoodIn wsX0_next wsX0_order := goodIn_r _ [10, 11, 12, 13, 14, 15, 16, 17, 18, 19, 5, 20, 21, 22, 23, 24, 25] (by decide +kernel) (by decide +kernel)
set_option maxRecDepth 20000 in
theorem gX0_next_X0_order : GoodIn wsX0_next (wsV RX0 48 RX0 yX0_order wsX0_order) := goodIn_app (goodIn_of _ (by decide +kernel)) ggX0_next_X0_order
theorem dX0_next_0 : decode cX0_next 0 = .ok (.aload_n 0, 1) := by decide +kernel
theorem dX0_next_1 : decode cX0_next 1 = .ok (.iload_n 1, 1) := by decide +kernel
theorem dX0_next_2 : decode cX0_next 2 = .ok (.invokevirtual 34, 3) := by decide +kernel
theorem dX0_next_5 : decode cX0_next 5 = .ok (.ifCond .ne 5, 3) := by decide +kernel
theorem dX0_next_8 : decode cX0_next 8 = .ok (.iconst (-1), 1) := by decide +kernel
theorem dX0_next_9 : decode cX0_next 9 = .ok (.ireturn, 1) := by decide +kernel
theorem dX0_next_10 : decode cX0_next 10 = .ok (.iconst 0, 1) := by decide +kernel
theorem dX0_next_11 : decode cX0_next 11 = .ok (.istore_n 2, 1) := by decide +kernel
theorem dX0_next_12 : decode cX0_next 12 = .ok (.iconst 1, 1) := by decide +kernel
theorem dX0_next_13 : decode cX0_next 13 = .ok (.istore_n 3, 1) := by decide +kernel
theorem dX0_next_14 : decode cX0_next 14 = .ok (.iload_n 3, 1) := by decide +kernel
theorem dX0_next_15 : decode cX0_next 15 = .ok (.aload_n 0, 1) := by decide +kernel
theorem dX0_next_16 : decode cX0_next 16 = .ok (.getfield 23, 3) := by decide +kernel
theorem dX0_next_19 : decode cX0_next 19 = .ok (.if_icmp .gt 33, 3) := by decide +kernel
theorem dX0_next_22 : decode cX0_next 22 = .ok (.aload_n 0, 1) := by decide +kernel
theorem dX0_next_23 : decode cX0_next 23 = .ok (.iload_n 3, 1) := by decide +kernel
theorem dX0_next_24 : decode cX0_next 24 = .ok (.iload_n 1, 1) := by decide +kernel
theorem dX0_next_25 : decode cX0_next 25 = .ok (.invokevirtual 48, 3) := by decide +kernel
theorem dX0_next_28 : decode cX0_next 28 = .ok (.ifCond .le 18, 3) := by decide +kernel
theorem dX0_next_31 : decode cX0_next 31 = .ok (.iload_n 2, 1) := by decide +kernel
theorem dX0_next_32 : decode cX0_next 32 = .ok (.ifCond .eq 12, 3) := by decide +kernel
theorem dX0_next_35 : decode cX0_next 35 = .ok (.aload_n 0, 1) := by decide +kernel
theorem dX0_next_36 : decode cX0_next 36 = .ok (.iload_n 3, 1) := by decide +kernel
theorem dX0_next_37 : decode cX0_next 37 = .ok (.iload_n 2, 1) := by decide +kernel
theorem dX0_next_38 : decode cX0_next 38 = .ok (.invokevirtual 48, 3) := by decide +kernel
theorem dX0_next_41 : decode cX0_next 41 = .ok (.ifCond .ge 5, 3) := by decide +kernel
theorem dX0_next_44 : decode cX0_next 44 = .ok (.iload_n 3, 1) := by decide +kernel
theorem dX0_next_45 : decode cX0_next 45 = .ok (.istore_n 2, 1) := by decide +kernel
theorem dX0_next_46 : decode cX0_next 46 = .ok (.iinc 3 1, 3) := by decide +kernel
theorem dX0_next_49 : decode cX0_next 49 = .ok (.goto (-35), 3) := by decide +kernel
theorem dX0_next_52 : decode cX0_next 52 = .ok (.iload_n 2, 1) := by decide +kernel
theorem dX0_next_53 : decode cX0_next 53 = .ok (.ireturn, 1) := by decide +kernel
theorem dX0_clear_0 : decode cX0_clear 0 = .ok (.aload_n 0, 1) := by decide +kernel
theorem dX0_clear_1 : decode cX0_clear 1 = .ok (.getfield 23, 3) := by decide +kernel
theorem dX0_clear_4 : decode cX0_clear 4 = .ok (.istore_n 1, 1) := by decide +kernel
theorem dX0_clear_5 : decode cX0_clear 5 = .ok (.aload_n 0, 1) := by decide +kernel
theorem dX0_clear_6 : decode cX0_clear 6 = .ok (.iconst 0, 1) := by decide +kernel
theorem dX0_clear_7 : decode cX0_clear 7 = .ok (.putfield 23, 3) := by decide +kernel
theorem dX0_clear_10 : decode cX0_clear 10 = .ok (.iload_n 1, 1) := by decide +kernel
theorem dX0_clear_11 : decode cX0_clear 11 = .ok (.ireturn, 1) := by decide +kernel
theorem dX0_isRow_0 : decode cX0_isRow 0 = .ok (.iload_n 1, 1) := by decide +kernel
theorem dX0_isRow_1 : decode cX0_isRow 1 = .ok (.iconst 1, 1) := by decide +kernel
theorem dX0_isRow_2 : decode cX0_isRow 2 = .ok (.if_icmp .lt 15, 3) := by decide +kernel
theorem dX0_isRow_5 : decode cX0_isRow 5 = .ok (.iload_n 1, 1) := by decide +kernel
theorem dX0_isRow_6 : decode cX0_isRow 6 = .ok (.aload_n 0, 1) := by decide +kernel
theorem dX0_isRow_7 : decode cX0_isRow 7 = .ok (.getfield 23, 3) := by decide +kernel
theorem dX0_isRow_10 : decode cX0_isRow 10 = .ok (.if_icmp .gt 7, 3) := by decide +kernel
theorem dX0_isRow_13 : decode cX0_isRow 13 = .ok (.iconst 1, 1) := by decide +kernel
theorem dX0_isRow_14 : decode cX0_isRow 14 = .ok (.goto 4, 3) := by decide +kernel
theorem dX0_isRow_17 : decode cX0_isRow 17 = .ok (.iconst 0, 1) := by decide +kernel
theorem dX0_isRow_18 : decode cX0_isRow 18 = .ok (.ireturn, 1) := by decide +kernel
theorem dX0_lengthOf_0 : decode cX0_lengthOf 0 = .ok (.aload_n 0, 1) := by decide +kernel
theorem dX0_lengthOf_1 : decode cX0_lengthOf 1 = .ok (.getfield 20, 3) := by decide +kernel
theorem dX0_lengthOf_4 : decode cX0_lengthOf 4 = .ok (.iload_n 1, 1) := by decide +kernel
theorem dX0_lengthOf_5 : decode cX0_lengthOf 5 = .ok (.iconst 1, 1) := by decide +kernel
theorem dX0_lengthOf_6 : decode cX0_lengthOf 6 = .ok (.iadd, 1) := by decide +kernel
theorem dX0_lengthOf_7 : decode cX0_lengthOf 7 = .ok (.iaload, 1) := by decide +kernel
theorem dX0_lengthOf_8 : decode cX0_lengthOf 8 = .ok (.aload_n 0, 1) := by decide +kernel
theorem dX0_lengthOf_9 : decode cX0_lengthOf 9 = .ok (.getfield 20, 3) := by decide +kernel
theorem dX0_lengthOf_12 : decode cX0_lengthOf 12 = .ok (.iload_n 1, 1) := by decide +kernel
theorem dX0_lengthOf_13 : decode cX0_lengthOf 13 = .ok (.iaload, 1) := by decide +kernel
theorem dX0_lengthOf_14 : decode cX0_lengthOf 14 = .ok (.isub, 1) := by decide +kernel
theorem dX0_lengthOf_15 : decode cX0_lengthOf 15 = .ok (.ireturn, 1) := by decide +kernel
set_option maxRecDepth 20000 in
theorem ggX0_numberOf_X0_find : GoodIn wsX0_numberOf wsX0_find := goodIn_r _ [5, 6, 7, 8, 9, 4, 10, 11, 12, 13, 14, 15, 16, 29, 30, 31, 32, 33] (by decide +kernel) (by decide +kernel)
set_option maxRecDepth 20000 in
theorem gX0_numberOf_X0_find : GoodIn wsX0_numberOf (wsV RX0 31 RX0 yX0_find wsX0_find) := goodIn_app (goodIn_of _ (by decide +kernel)) ggX0_numberOf_X0_find
set_option maxRecDepth 20000 in
theorem ggX0_numberOf_X0_hasRoomFor : GoodIn wsX0_numberOf wsX0_hasRoomFor := goodIn_r _ [20, 6, 11, 29, 30, 31, 32, 33] (by decide +kernel) (by decide +kernel)
set_option maxRecDepth 20000 in
theorem gX0_numberOf_X0_hasRoomFor : GoodIn wsX0_numberOf (wsV RX0 58 RX0 yX0_hasRoomFor wsX0_hasRoomFor) := goodIn_app (goodIn_of _ (by decide +kernel)) ggX0_numberOf_X0_hasRoomFor
set_option maxRecDepth 20000 in
theorem ggX0_numberOf_X0_add : GoodIn wsX0_numberOf wsX0_add := goodIn_r _ [24, 11, 6, 16, 25, 26, 27, 28, 29, 30, 31, 32, 33] (by decide +kernel) (by decide +kernel)
set_option maxRecDepth 20000 in
theorem gX0_numberOf_X0_add : GoodIn wsX0_numberOf (wsV RX0 61 RX0 yX0_add wsX0_add) := goodIn_app (goodIn_of _ (by decide +kernel)) ggX0_numberOf_X0_add
theorem dX0_numberOf_0 : decode cX0_numberOf 0 = .ok (.aload_n 0, 1) := by decide +kernel
theorem dX0_numberOf_1 : decode cX0_numberOf 1 = .ok (.aload_n 1, 1) := by decide +kernel
theorem dX0_numberOf_2 : decode cX0_numberOf 2 = .ok (.iload_n 2, 1) := by decide +kernel
theorem dX0_numberOf_3 : decode cX0_numberOf 3 = .ok (.iload_n 3, 1) := by decide +kernel
theorem dX0_numberOf_4 : decode cX0_numberOf 4 = .ok (.invokevirtual 31, 3) := by decide +kernel
theorem dX0_numberOf_7 : decode cX0_numberOf 7 = .ok (.istore 4, 2) := by decide +kernel
theorem dX0_numberOf_9 : decode cX0_numberOf 9 = .ok (.iload 4, 2) := by decide +kernel
theorem dX0_numberOf_11 : decode cX0_numberOf 11 = .ok (.iconst (-1), 1) := by decide +kernel
theorem dX0_numberOf_12 : decode cX0_numberOf 12 = .ok (.if_icmp .eq 6, 3) := by decide +kernel
theorem dX0_numberOf_15 : decode cX0_numberOf 15 = .ok (.iload 4, 2) := by decide +kernel
theorem dX0_numberOf_17 : decode cX0_numberOf 17 = .ok (.ireturn, 1) := by decide +kernel
theorem dX0_numberOf_18 : decode cX0_numberOf 18 = .ok (.aload_n 0, 1) := by decide +kernel
theorem dX0_numberOf_19 : decode cX0_numberOf 19 = .ok (.iload_n 3, 1) := by decide +kernel
theorem dX0_numberOf_20 : decode cX0_numberOf 20 = .ok (.invokevirtual 58, 3) := by decide +kernel
theorem dX0_numberOf_23 : decode cX0_numberOf 23 = .ok (.ifCond .eq 13, 3) := by decide +kernel
theorem dX0_numberOf_26 : decode cX0_numberOf 26 = .ok (.aload_n 0, 1) := by decide +kernel
theorem dX0_numberOf_27 : decode cX0_numberOf 27 = .ok (.aload_n 1, 1) := by decide +kernel
theorem dX0_numberOf_28 : decode cX0_numberOf 28 = .ok (.iload_n 2, 1) := by decide +kernel
theorem dX0_numberOf_29 : decode cX0_numberOf 29 = .ok (.iload_n 3, 1) := by decide +kernel
theorem dX0_numberOf_30 : decode cX0_numberOf 30 = .ok (.invokevirtual 61, 3) := by decide +kernel
theorem dX0_numberOf_33 : decode cX0_numberOf 33 = .ok (.goto 4, 3) := by decide +kernel
theorem dX0_numberOf_36 : decode cX0_numberOf 36 = .ok (.iconst (-1), 1) := by decide +kernel
theorem dX0_numberOf_37 : decode cX0_numberOf 37 = .ok (.ireturn, 1) := by decide +kernel
set_option maxRecDepth 20000 in
theorem ggX0_find_X0_lengthOf : GoodIn wsX0_find wsX0_lengthOf := goodIn_r _ [6, 7, 13, 14, 15, 16, 17] (by decide +kernel) (by decide +kernel)
set_option maxRecDepth 20000 in
theorem gX0_find_X0_lengthOf : GoodIn wsX0_find (wsV RX0 38 RX0 yX0_lengthOf wsX0_lengthOf) := goodIn_app (goodIn_of _ (by decide +kernel)) ggX0_find_X0_lengthOf
set_option maxRecDepth 20000 in
theorem ggX0_find_X0_isSame : GoodIn wsX0_find wsX0_isSame := goodIn_r _ [11, 12, 7, 2, 3, 4, 5, 6, 13, 14, 15, 16, 17] (by decide +kernel) (by decide +kernel)
set_option maxRecDepth 20000 in
theorem gX0_find_X0_isSame : GoodIn wsX0_find (wsV RX0 64 RX0 yX0_isSame wsX0_isSame) := goodIn_app (goodIn_of _ (by decide +kernel)) ggX0_find_X0_isSame
theorem dX0_find_0 : decode cX0_find 0 = .ok (.iconst 1, 1) := by decide +kernel
theorem dX0_find_1 : decode cX0_find 1 = .ok (.istore 4, 2) := by decide +kernel
theorem dX0_find_3 : decode cX0_find 3 = .ok (.iload 4, 2) := by decide +kernel
theorem dX0_find_5 : decode cX0_find 5 = .ok (.aload_n 0, 1) := by decide +kernel
theorem dX0_find_6 : decode cX0_find 6 = .ok (.getfield 23, 3) := by decide +kernel
theorem dX0_find_9 : decode cX0_find 9 = .ok (.if_icmp .gt 33, 3) := by decide +kernel
theorem dX0_find_12 : decode cX0_find 12 = .ok (.aload_n 0, 1) := by decide +kernel
theorem dX0_find_13 : decode cX0_find 13 = .ok (.iload 4, 2) := by decide +kernel
theorem dX0_find_15 : decode cX0_find 15 = .ok (.invokevirtual 38, 3) := by decide +kernel
theorem dX0_find_18 : decode cX0_find 18 = .ok (.iload_n 3, 1) := by decide +kernel
theorem dX0_find_19 : decode cX0_find 19 = .ok (.if_icmp .ne 17, 3) := by decide +kernel
theorem dX0_find_22 : decode cX0_find 22 = .ok (.aload_n 0, 1) := by decide +kernel
theorem dX0_find_23 : decode cX0_find 23 = .ok (.aload_n 1, 1) := by decide +kernel
theorem dX0_find_24 : decode cX0_find 24 = .ok (.iload_n 2, 1) := by decide +kernel
theorem dX0_find_25 : decode cX0_find 25 = .ok (.iload 4, 2) := by decide +kernel
theorem dX0_find_27 : decode cX0_find 27 = .ok (.invokevirtual 64, 3) := by decide +kernel
theorem dX0_find_30 : decode cX0_find 30 = .ok (.ifCond .eq 6, 3) := by decide +kernel
theorem dX0_find_33 : decode cX0_find 33 = .ok (.iload 4, 2) := by decide +kernel
theorem dX0_find_35 : decode cX0_find 35 = .ok (.ireturn, 1) := by decide +kernel
theorem dX0_find_36 : decode cX0_find 36 = .ok (.iinc 4 1, 3) := by decide +kernel
theorem dX0_find_39 : decode cX0_find 39 = .ok (.goto (-36), 3) := by decide +kernel
theorem dX0_find_42 : decode cX0_find 42 = .ok (.iconst (-1), 1) := by decide +kernel
theorem dX0_find_43 : decode cX0_find 43 = .ok (.ireturn, 1) := by decide +kernel
set_option maxRecDepth 20000 in
theorem ggX0_isSame_X0_lengthOf : GoodIn wsX0_isSame wsX0_lengthOf := goodIn_r _ [7, 2, 8, 9, 10, 11, 12] (by decide +kernel) (by decide +kernel)
set_option maxRecDepth 20000 in
theorem gX0_isSame_X0_lengthOf : GoodIn wsX0_isSame (wsV RX0 38 RX0 yX0_lengthOf wsX0_lengthOf) := goodIn_app (goodIn_of _ (by decide +kernel)) ggX0_isSame_X0_lengthOf
theorem dX0_isSame_0 : decode cX0_isSame 0 = .ok (.aload_n 0, 1) := by decide +kernel
theorem dX0_isSame_1 : decode cX0_isSame 1 = .ok (.iload_n 3, 1) := by decide +kernel
theorem dX0_isSame_2 : decode cX0_isSame 2 = .ok (.invokevirtual 38, 3) := by decide +kernel
theorem dX0_isSame_5 : decode cX0_isSame 5 = .ok (.istore 4, 2) := by decide +kernel
theorem dX0_isSame_7 : decode cX0_isSame 7 = .ok (.iconst 0, 1) := by decide +kernel
theorem dX0_isSame_8 : decode cX0_isSame 8 = .ok (.istore 5, 2) := by decide +kernel
theorem dX0_isSame_10 : decode cX0_isSame 10 = .ok (.iload 5, 2) := by decide +kernel
theorem dX0_isSame_12 : decode cX0_isSame 12 = .ok (.iload 4, 2) := by decide +kernel
theorem dX0_isSame_14 : decode cX0_isSame 14 = .ok (.if_icmp .ge 34, 3) := by decide +kernel
theorem dX0_isSame_17 : decode cX0_isSame 17 = .ok (.aload_n 1, 1) := by decide +kernel
theorem dX0_isSame_18 : decode cX0_isSame 18 = .ok (.iload_n 2, 1) := by decide +kernel
theorem dX0_isSame_19 : decode cX0_isSame 19 = .ok (.iload 5, 2) := by decide +kernel
theorem dX0_isSame_21 : decode cX0_isSame 21 = .ok (.iadd, 1) := by decide +kernel
theorem dX0_isSame_22 : decode cX0_isSame 22 = .ok (.iaload, 1) := by decide +kernel
theorem dX0_isSame_23 : decode cX0_isSame 23 = .ok (.aload_n 0, 1) := by decide +kernel
theorem dX0_isSame_24 : decode cX0_isSame 24 = .ok (.getfield 17, 3) := by decide +kernel
theorem dX0_isSame_27 : decode cX0_isSame 27 = .ok (.aload_n 0, 1) := by decide +kernel
theorem dX0_isSame_28 : decode cX0_isSame 28 = .ok (.getfield 20, 3) := by decide +kernel
theorem dX0_isSame_31 : decode cX0_isSame 31 = .ok (.iload_n 3, 1) := by decide +kernel
theorem dX0_isSame_32 : decode cX0_isSame 32 = .ok (.iaload, 1) := by decide +kernel
theorem dX0_isSame_33 : decode cX0_isSame 33 = .ok (.iload 5, 2) := by decide +kernel
theorem dX0_isSame_35 : decode cX0_isSame 35 = .ok (.iadd, 1) := by decide +kernel
theorem dX0_isSame_36 : decode cX0_isSame 36 = .ok (.iaload, 1) := by decide +kernel
theorem dX0_isSame_37 : decode cX0_isSame 37 = .ok (.if_icmp .eq 5, 3) := by decide +kernel
theorem dX0_isSame_40 : decode cX0_isSame 40 = .ok (.iconst 0, 1) := by decide +kernel
theorem dX0_isSame_41 : decode cX0_isSame 41 = .ok (.ireturn, 1) := by decide +kernel
theorem dX0_isSame_42 : decode cX0_isSame 42 = .ok (.iinc 5 1, 3) := by decide +kernel
theorem dX0_isSame_45 : decode cX0_isSame 45 = .ok (.goto (-35), 3) := by decide +kernel
theorem dX0_isSame_48 : decode cX0_isSame 48 = .ok (.iconst 1, 1) := by decide +kernel
theorem dX0_isSame_49 : decode cX0_isSame 49 = .ok (.ireturn, 1) := by decide +kernel
theorem dX0_hasRoomFor_0 : decode cX0_hasRoomFor 0 = .ok (.aload_n 0, 1) := by decide +kernel
theorem dX0_hasRoomFor_1 : decode cX0_hasRoomFor 1 = .ok (.getfield 23, 3) := by decide +kernel
theorem dX0_hasRoomFor_4 : decode cX0_hasRoomFor 4 = .ok (.sipush 3000, 3) := by decide +kernel
theorem dX0_hasRoomFor_7 : decode cX0_hasRoomFor 7 = .ok (.if_icmp .ge 26, 3) := by decide +kernel
theorem dX0_hasRoomFor_10 : decode cX0_hasRoomFor 10 = .ok (.iload_n 1, 1) := by decide +kernel
theorem dX0_hasRoomFor_11 : decode cX0_hasRoomFor 11 = .ok (.sipush 20000, 3) := by decide +kernel
theorem dX0_hasRoomFor_14 : decode cX0_hasRoomFor 14 = .ok (.aload_n 0, 1) := by decide +kernel
theorem dX0_hasRoomFor_15 : decode cX0_hasRoomFor 15 = .ok (.getfield 20, 3) := by decide +kernel
theorem dX0_hasRoomFor_18 : decode cX0_hasRoomFor 18 = .ok (.aload_n 0, 1) := by decide +kernel
theorem dX0_hasRoomFor_19 : decode cX0_hasRoomFor 19 = .ok (.getfield 23, 3) := by decide +kernel
theorem dX0_hasRoomFor_22 : decode cX0_hasRoomFor 22 = .ok (.iconst 1, 1) := by decide +kernel
theorem dX0_hasRoomFor_23 : decode cX0_hasRoomFor 23 = .ok (.iadd, 1) := by decide +kernel
theorem dX0_hasRoomFor_24 : decode cX0_hasRoomFor 24 = .ok (.iaload, 1) := by decide +kernel
theorem dX0_hasRoomFor_25 : decode cX0_hasRoomFor 25 = .ok (.isub, 1) := by decide +kernel
theorem dX0_hasRoomFor_26 : decode cX0_hasRoomFor 26 = .ok (.if_icmp .gt 7, 3) := by decide +kernel
theorem dX0_hasRoomFor_29 : decode cX0_hasRoomFor 29 = .ok (.iconst 1, 1) := by decide +kernel
theorem dX0_hasRoomFor_30 : decode cX0_hasRoomFor 30 = .ok (.goto 4, 3) := by decide +kernel
theorem dX0_hasRoomFor_33 : decode cX0_hasRoomFor 33 = .ok (.iconst 0, 1) := by decide +kernel
theorem dX0_hasRoomFor_34 : decode cX0_hasRoomFor 34 = .ok (.ireturn, 1) := by decide +kernel
theorem dX0_add_0 : decode cX0_add 0 = .ok (.aload_n 0, 1) := by decide +kernel
theorem dX0_add_1 : decode cX0_add 1 = .ok (.getfield 20, 3) := by decide +kernel
theorem dX0_add_4 : decode cX0_add 4 = .ok (.aload_n 0, 1) := by decide +kernel
theorem dX0_add_5 : decode cX0_add 5 = .ok (.getfield 23, 3) := by decide +kernel
theorem dX0_add_8 : decode cX0_add 8 = .ok (.iconst 1, 1) := by decide +kernel
theorem dX0_add_9 : decode cX0_add 9 = .ok (.iadd, 1) := by decide +kernel
theorem dX0_add_10 : decode cX0_add 10 = .ok (.iaload, 1) := by decide +kernel
theorem dX0_add_11 : decode cX0_add 11 = .ok (.istore 4, 2) := by decide +kernel
theorem dX0_add_13 : decode cX0_add 13 = .ok (.aload_n 1, 1) := by decide +kernel
theorem dX0_add_14 : decode cX0_add 14 = .ok (.iload_n 2, 1) := by decide +kernel
theorem dX0_add_15 : decode cX0_add 15 = .ok (.aload_n 0, 1) := by decide +kernel
theorem dX0_add_16 : decode cX0_add 16 = .ok (.getfield 17, 3) := by decide +kernel
theorem dX0_add_19 : decode cX0_add 19 = .ok (.iload 4, 2) := by decide +kernel
theorem dX0_add_21 : decode cX0_add 21 = .ok (.iload_n 3, 1) := by decide +kernel
theorem dX0_add_22 : decode cX0_add 22 = .ok (.invokestatic 42, 3) := by decide +kernel
theorem dX0_add_25 : decode cX0_add 25 = .ok (.aload_n 0, 1) := by decide +kernel
theorem dX0_add_26 : decode cX0_add 26 = .ok (.dup, 1) := by decide +kernel
theorem dX0_add_27 : decode cX0_add 27 = .ok (.getfield 23, 3) := by decide +kernel
theorem dX0_add_30 : decode cX0_add 30 = .ok (.iconst 1, 1) := by decide +kernel
theorem dX0_add_31 : decode cX0_add 31 = .ok (.iadd, 1) := by decide +kernel
theorem dX0_add_32 : decode cX0_add 32 = .ok (.putfield 23, 3) := by decide +kernel
theorem dX0_add_35 : decode cX0_add 35 = .ok (.aload_n 0, 1) := by decide +kernel
theorem dX0_add_36 : decode cX0_add 36 = .ok (.getfield 20, 3) := by decide +kernel
theorem dX0_add_39 : decode cX0_add 39 = .ok (.aload_n 0, 1) := by decide +kernel
theorem dX0_add_40 : decode cX0_add 40 = .ok (.getfield 23, 3) := by decide +kernel
theorem dX0_add_43 : decode cX0_add 43 = .ok (.iconst 1, 1) := by decide +kernel
theorem dX0_add_44 : decode cX0_add 44 = .ok (.iadd, 1) := by decide +kernel
theorem dX0_add_45 : decode cX0_add 45 = .ok (.iload 4, 2) := by decide +kernel
theorem dX0_add_47 : decode cX0_add 47 = .ok (.iload_n 3, 1) := by decide +kernel
theorem dX0_add_48 : decode cX0_add 48 = .ok (.iadd, 1) := by decide +kernel
theorem dX0_add_49 : decode cX0_add 49 = .ok (.iastore, 1) := by decide +kernel
theorem dX0_add_50 : decode cX0_add 50 = .ok (.aload_n 0, 1) := by decide +kernel
theorem dX0_add_51 : decode cX0_add 51 = .ok (.getfield 23, 3) := by decide +kernel
theorem dX0_add_54 : decode cX0_add 54 = .ok (.ireturn, 1) := by decide +kernel
set_option maxRecDepth 20000 in
theorem ggX0_order_X0_lengthOf : GoodIn wsX0_order wsX0_lengthOf := goodIn_r _ [11, 6, 12, 13, 14, 15, 16] (by decide +kernel) (by decide +kernel)
set_option maxRecDepth 20000 in
theorem gX0_order_X0_lengthOf : GoodIn wsX0_order (wsV RX0 38 RX0 yX0_lengthOf wsX0_lengthOf) := goodIn_app (goodIn_of _ (by decide +kernel)) ggX0_order_X0_lengthOf
theorem dX0_order_0 : decode cX0_order 0 = .ok (.aload_n 0, 1) := by decide +kernel
theorem dX0_order_1 : decode cX0_order 1 = .ok (.iload_n 1, 1) := by decide +kernel
theorem dX0_order_2 : decode cX0_order 2 = .ok (.invokevirtual 38, 3) := by decide +kernel
theorem dX0_order_5 : decode cX0_order 5 = .ok (.aload_n 0, 1) := by decide +kernel
theorem dX0_order_6 : decode cX0_order 6 = .ok (.iload_n 2, 1) := by decide +kernel
theorem dX0_order_7 : decode cX0_order 7 = .ok (.invokevirtual 38, 3) := by decide +kernel
theorem dX0_order_10 : decode cX0_order 10 = .ok (.invokestatic 68, 3) := by decide +kernel
theorem dX0_order_13 : decode cX0_order 13 = .ok (.istore_n 3, 1) := by decide +kernel
theorem dX0_order_14 : decode cX0_order 14 = .ok (.iconst 0, 1) := by decide +kernel
theorem dX0_order_15 : decode cX0_order 15 = .ok (.istore 4, 2) := by decide +kernel
theorem dX0_order_17 : decode cX0_order 17 = .ok (.iload 4, 2) := by decide +kernel
theorem dX0_order_19 : decode cX0_order 19 = .ok (.iload_n 3, 1) := by decide +kernel
theorem dX0_order_20 : decode cX0_order 20 = .ok (.if_icmp .ge 61, 3) := by decide +kernel
theorem dX0_order_23 : decode cX0_order 23 = .ok (.aload_n 0, 1) := by decide +kernel
theorem dX0_order_24 : decode cX0_order 24 = .ok (.getfield 17, 3) := by decide +kernel
theorem dX0_order_27 : decode cX0_order 27 = .ok (.aload_n 0, 1) := by decide +kernel
theorem dX0_order_28 : decode cX0_order 28 = .ok (.getfield 20, 3) := by decide +kernel
theorem dX0_order_31 : decode cX0_order 31 = .ok (.iload_n 1, 1) := by decide +kernel
theorem dX0_order_32 : decode cX0_order 32 = .ok (.iaload, 1) := by decide +kernel
theorem dX0_order_33 : decode cX0_order 33 = .ok (.iload 4, 2) := by decide +kernel
theorem dX0_order_35 : decode cX0_order 35 = .ok (.iadd, 1) := by decide +kernel
theorem dX0_order_36 : decode cX0_order 36 = .ok (.iaload, 1) := by decide +kernel
theorem dX0_order_37 : decode cX0_order 37 = .ok (.istore 5, 2) := by decide +kernel
theorem dX0_order_39 : decode cX0_order 39 = .ok (.aload_n 0, 1) := by decide +kernel
theorem dX0_order_40 : decode cX0_order 40 = .ok (.getfield 17, 3) := by decide +kernel
theorem dX0_order_43 : decode cX0_order 43 = .ok (.aload_n 0, 1) := by decide +kernel
theorem dX0_order_44 : decode cX0_order 44 = .ok (.getfield 20, 3) := by decide +kernel
theorem dX0_order_47 : decode cX0_order 47 = .ok (.iload_n 2, 1) := by decide +kernel
theorem dX0_order_48 : decode cX0_order 48 = .ok (.iaload, 1) := by decide +kernel
theorem dX0_order_49 : decode cX0_order 49 = .ok (.iload 4, 2) := by decide +kernel
theorem dX0_order_51 : decode cX0_order 51 = .ok (.iadd, 1) := by decide +kernel
theorem dX0_order_52 : decode cX0_order 52 = .ok (.iaload, 1) := by decide +kernel
theorem dX0_order_53 : decode cX0_order 53 = .ok (.istore 6, 2) := by decide +kernel
theorem dX0_order_55 : decode cX0_order 55 = .ok (.iload 5, 2) := by decide +kernel
theorem dX0_order_57 : decode cX0_order 57 = .ok (.iload 6, 2) := by decide +kernel
theorem dX0_order_59 : decode cX0_order 59 = .ok (.if_icmp .eq 16, 3) := by decide +kernel
theorem dX0_order_62 : decode cX0_order 62 = .ok (.iload 5, 2) := by decide +kernel
theorem dX0_order_64 : decode cX0_order 64 = .ok (.iload 6, 2) := by decide +kernel
theorem dX0_order_66 : decode cX0_order 66 = .ok (.if_icmp .ge 7, 3) := by decide +kernel
theorem dX0_order_69 : decode cX0_order 69 = .ok (.iconst (-1), 1) := by decide +kernel
theorem dX0_order_70 : decode cX0_order 70 = .ok (.goto 4, 3) := by decide +kernel
theorem dX0_order_73 : decode cX0_order 73 = .ok (.iconst 1, 1) := by decide +kernel
theorem dX0_order_74 : decode cX0_order 74 = .ok (.ireturn, 1) := by decide +kernel
theorem dX0_order_75 : decode cX0_order 75 = .ok (.iinc 4 1, 3) := by decide +kernel
theorem dX0_order_78 : decode cX0_order 78 = .ok (.goto (-61), 3) := by decide +kernel
theorem dX0_order_81 : decode cX0_order 81 = .ok (.aload_n 0, 1) := by decide +kernel
theorem dX0_order_82 : decode cX0_order 82 = .ok (.iload_n 1, 1) := by decide +kernel
theorem dX0_order_83 : decode cX0_order 83 = .ok (.invokevirtual 38, 3) := by decide +kernel
theorem dX0_order_86 : decode cX0_order 86 = .ok (.aload_n 0, 1) := by decide +kernel
theorem dX0_order_87 : decode cX0_order 87 = .ok (.iload_n 2, 1) := by decide +kernel
theorem dX0_order_88 : decode cX0_order 88 = .ok (.invokevirtual 38, 3) := by decide +kernel
theorem dX0_order_91 : decode cX0_order 91 = .ok (.if_icmp .ne 5, 3) := by decide +kernel
theorem dX0_order_94 : decode cX0_order 94 = .ok (.iconst 0, 1) := by decide +kernel
theorem dX0_order_95 : decode cX0_order 95 = .ok (.ireturn, 1) := by decide +kernel
theorem dX0_order_96 : decode cX0_order 96 = .ok (.aload_n 0, 1) := by decide +kernel
theorem dX0_order_97 : decode cX0_order 97 = .ok (.iload_n 1, 1) := by decide +kernel
theorem dX0_order_98 : decode cX0_order 98 = .ok (.invokevirtual 38, 3) := by decide +kernel
theorem dX0_order_101 : decode cX0_order 101 = .ok (.aload_n 0, 1) := by decide +kernel
theorem dX0_order_102 : decode cX0_order 102 = .ok (.iload_n 2, 1) := by decide +kernel
theorem dX0_order_103 : decode cX0_order 103 = .ok (.invokevirtual 38, 3) := by decide +kernel
theorem dX0_order_106 : decode cX0_order 106 = .ok (.if_icmp .ge 7, 3) := by decide +kernel
theorem dX0_order_109 : decode cX0_order 109 = .ok (.iconst (-1), 1) := by decide +kernel
theorem dX0_order_110 : decode cX0_order 110 = .ok (.goto 4, 3) := by decide +kernel
theorem dX0_order_113 : decode cX0_order 113 = .ok (.iconst 1, 1) := by decide +kernel
theorem dX0_order_114 : decode cX0_order 114 = .ok (.ireturn, 1) := by decide +kernel
theorem dX0_findColon_0 : decode cX0_findColon 0 = .ok (.iload_n 1, 1) := by decide +kernel
theorem dX0_findColon_1 : decode cX0_findColon 1 = .ok (.istore_n 3, 1) := by decide +kernel
theorem dX0_findColon_2 : decode cX0_findColon 2 = .ok (.iload_n 3, 1) := by decide +kernel
theorem dX0_findColon_3 : decode cX0_findColon 3 = .ok (.iload_n 2, 1) := by decide +kernel
theorem dX0_findColon_4 : decode cX0_findColon 4 = .ok (.if_icmp .ge 22, 3) := by decide +kernel
theorem dX0_findColon_7 : decode cX0_findColon 7 = .ok (.aload_n 0, 1) := by decide +kernel
theorem dX0_findColon_8 : decode cX0_findColon 8 = .ok (.getfield 17, 3) := by decide +kernel
theorem dX0_findColon_11 : decode cX0_findColon 11 = .ok (.iload_n 3, 1) := by decide +kernel
theorem dX0_findColon_12 : decode cX0_findColon 12 = .ok (.iaload, 1) := by decide +kernel
theorem dX0_findColon_13 : decode cX0_findColon 13 = .ok (.bipush 58, 2) := by decide +kernel
theorem dX0_findColon_15 : decode cX0_findColon 15 = .ok (.if_icmp .ne 5, 3) := by decide +kernel
theorem dX0_findColon_18 : decode cX0_findColon 18 = .ok (.iload_n 3, 1) := by decide +kernel
theorem dX0_findColon_19 : decode cX0_findColon 19 = .ok (.ireturn, 1) := by decide +kernel
theorem dX0_findColon_20 : decode cX0_findColon 20 = .ok (.iinc 3 1, 3) := by decide +kernel
theorem dX0_findColon_23 : decode cX0_findColon 23 = .ok (.goto (-21), 3) := by decide +kernel
theorem dX0_findColon_26 : decode cX0_findColon 26 = .ok (.iload_n 2, 1) := by decide +kernel
theorem dX0_findColon_27 : decode cX0_findColon 27 = .ok (.ireturn, 1) := by decide +kernel
theorem dX0_isNameStart_0 : decode cX0_isNameStart 0 = .ok (.iconst 0, 1) := by decide +kernel
theorem dX0_isNameStart_1 : decode cX0_isNameStart 1 = .ok (.istore_n 1, 1) := by decide +kernel
theorem dX0_isNameStart_2 : decode cX0_isNameStart 2 = .ok (.iload_n 1, 1) := by decide +kernel
theorem dX0_isNameStart_3 : decode cX0_isNameStart 3 = .ok (.iconst 1, 1) := by decide +kernel
theorem dX0_isNameStart_4 : decode cX0_isNameStart 4 = .ok (.iadd, 1) := by decide +kernel
theorem dX0_isNameStart_5 : decode cX0_isNameStart 5 = .ok (.getstatic 73, 3) := by decide +kernel
theorem dX0_isNameStart_8 : decode cX0_isNameStart 8 = .ok (.arraylength, 1) := by decide +kernel
theorem dX0_isNameStart_9 : decode cX0_isNameStart 9 = .ok (.if_icmp .ge 31, 3) := by decide +kernel
theorem dX0_isNameStart_12 : decode cX0_isNameStart 12 = .ok (.iload_n 0, 1) := by decide +kernel
theorem dX0_isNameStart_13 : decode cX0_isNameStart 13 = .ok (.getstatic 73, 3) := by decide +kernel
theorem dX0_isNameStart_16 : decode cX0_isNameStart 16 = .ok (.iload_n 1, 1) := by decide +kernel
theorem dX0_isNameStart_17 : decode cX0_isNameStart 17 = .ok (.iaload, 1) := by decide +kernel
theorem dX0_isNameStart_18 : decode cX0_isNameStart 18 = .ok (.if_icmp .lt 16, 3) := by decide +kernel
theorem dX0_isNameStart_21 : decode cX0_isNameStart 21 = .ok (.iload_n 0, 1) := by decide +kernel
theorem dX0_isNameStart_22 : decode cX0_isNameStart 22 = .ok (.getstatic 73, 3) := by decide +kernel
theorem dX0_isNameStart_25 : decode cX0_isNameStart 25 = .ok (.iload_n 1, 1) := by decide +kernel
theorem dX0_isNameStart_26 : decode cX0_isNameStart 26 = .ok (.iconst 1, 1) := by decide +kernel
theorem dX0_isNameStart_27 : decode cX0_isNameStart 27 = .ok (.iadd, 1) := by decide +kernel
theorem dX0_isNameStart_28 : decode cX0_isNameStart 28 = .ok (.iaload, 1) := by decide +kernel
theorem dX0_isNameStart_29 : decode cX0_isNameStart 29 = .ok (.if_icmp .gt 5, 3) := by decide +kernel
theorem dX0_isNameStart_32 : decode cX0_isNameStart 32 = .ok (.iconst 1, 1) := by decide +kernel
theorem dX0_isNameStart_33 : decode cX0_isNameStart 33 = .ok (.ireturn, 1) := by decide +kernel
theorem dX0_isNameStart_34 : decode cX0_isNameStart 34 = .ok (.iinc 1 2, 3) := by decide +kernel
theorem dX0_isNameStart_37 : decode cX0_isNameStart 37 = .ok (.goto (-35), 3) := by decide +kernel
theorem dX0_isNameStart_40 : decode cX0_isNameStart 40 = .ok (.iconst 0, 1) := by decide +kernel
theorem dX0_isNameStart_41 : decode cX0_isNameStart 41 = .ok (.ireturn, 1) := by decide +kernel
end
section
theorem dX1_init_0 : decode cX1_init 0 = .ok (.aload_n 0, 1) := by decide +kernel
theorem dX1_init_1 : decode cX1_init 1 = .ok (.invokespecial 1, 3) := by decide +kernel
theorem dX1_init_4 : decode cX1_init 4 = .ok (.aload_n 0, 1) := by decide +kernel
theorem dX1_init_5 : decode cX1_init 5 = .ok (.sipush 20000, 3) := by decide +kernel
theorem dX1_init_8 : decode cX1_init 8 = .ok (.newarray .int, 2) := by decide +kernel
theorem dX1_init_10 : decode cX1_init 10 = .ok (.putfield 7, 3) := by decide +kernel
theorem dX1_init_13 : decode cX1_init 13 = .ok (.aload_n 0, 1) := by decide +kernel
theorem dX1_init_14 : decode cX1_init 14 = .ok (.sipush 3001, 3) := by decide +kernel
theorem dX1_init_17 : decode cX1_init 17 = .ok (.newarray .int, 2) := by decide +kernel
theorem dX1_init_19 : decode cX1_init 19 = .ok (.putfield 13, 3) := by decide +kernel
theorem dX1_init_22 : decode cX1_init 22 = .ok (.aload_n 0, 1) := by decide +kernel
theorem dX1_init_23 : decode cX1_init 23 = .ok (.sipush 3001, 3) := by decide +kernel
theorem dX1_init_26 : decode cX1_init 26 = .ok (.newarray .int, 2) := by decide +kernel
theorem dX1_init_28 : decode cX1_init 28 = .ok (.putfield 16, 3) := by decide +kernel
theorem dX1_init_31 : decode cX1_init 31 = .ok (.aload_n 0, 1) := by decide +kernel
theorem dX1_init_32 : decode cX1_init 32 = .ok (.sipush 2000, 3) := by decide +kernel
theorem dX1_init_35 : decode cX1_init 35 = .ok (.newarray .int, 2) := by decide +kernel
theorem dX1_init_37 : decode cX1_init 37 = .ok (.putfield 19, 3) := by decide +kernel
theorem dX1_init_40 : decode cX1_init 40 = .ok (.aload_n 0, 1) := by decide +kernel
theorem dX1_init_41 : decode cX1_init 41 = .ok (.sipush 20000, 3) := by decide +kernel
theorem dX1_init_44 : decode cX1_init 44 = .ok (.newarray .int, 2) := by decide +kernel
theorem dX1_init_46 : decode cX1_init 46 = .ok (.putfield 22, 3) := by decide +kernel
theorem dX1_init_49 : decode cX1_init 49 = .ok (.return_, 1) := by decide +kernel
theorem dX1_write_0 : decode cX1_write 0 = .ok (.iload_n 1, 1) := by decide +kernel
theorem dX1_write_1 : decode cX1_write 1 = .ok (.ifCond .lt 42, 3) := by decide +kernel
theorem dX1_write_4 : decode cX1_write 4 = .ok (.iload_n 1, 1) := by decide +kernel
theorem dX1_write_5 : decode cX1_write 5 = .ok (.ldc 25, 2) := by decide +kernel
theorem dX1_write_7 : decode cX1_write 7 = .ok (.if_icmp .gt 36, 3) := by decide +kernel
theorem dX1_write_10 : decode cX1_write 10 = .ok (.iload_n 2, 1) := by decide +kernel
theorem dX1_write_11 : decode cX1_write 11 = .ok (.ifCond .lt 32, 3) := by decide +kernel
theorem dX1_write_14 : decode cX1_write 14 = .ok (.iload_n 2, 1) := by decide +kernel
theorem dX1_write_15 : decode cX1_write 15 = .ok (.sipush 500, 3) := by decide +kernel
theorem dX1_write_18 : decode cX1_write 18 = .ok (.if_icmp .gt 25, 3) := by decide +kernel
theorem dX1_write_21 : decode cX1_write 21 = .ok (.iload_n 1, 1) := by decide +kernel
theorem dX1_write_22 : decode cX1_write 22 = .ok (.iload_n 2, 1) := by decide +kernel
theorem dX1_write_23 : decode cX1_write 23 = .ok (.iadd, 1) := by decide +kernel
theorem dX1_write_24 : decode cX1_write 24 = .ok (.ldc 25, 2) := by decide +kernel
theorem dX1_write_26 : decode cX1_write 26 = .ok (.if_icmp .gt 17, 3) := by decide +kernel
theorem dX1_write_29 : decode cX1_write 29 = .ok (.aload_n 0, 1) := by decide +kernel
theorem dX1_write_30 : decode cX1_write 30 = .ok (.getfield 26, 3) := by decide +kernel
theorem dX1_write_33 : decode cX1_write 33 = .ok (.iload_n 2, 1) := by decide +kernel
theorem dX1_write_34 : decode cX1_write 34 = .ok (.iadd, 1) := by decide +kernel
theorem dX1_write_35 : decode cX1_write 35 = .ok (.iconst 1, 1) := by decide +kernel
theorem dX1_write_36 : decode cX1_write 36 = .ok (.iadd, 1) := by decide +kernel
theorem dX1_write_37 : decode cX1_write 37 = .ok (.sipush 2000, 3) := by decide +kernel
theorem dX1_write_40 : decode cX1_write 40 = .ok (.if_icmp .le 5, 3) := by decide +kernel
theorem dX1_write_43 : decode cX1_write 43 = .ok (.iconst (-1), 1) := by decide +kernel
theorem dX1_write_44 : decode cX1_write 44 = .ok (.ireturn, 1) := by decide +kernel
theorem dX1_write_45 : decode cX1_write 45 = .ok (.iconst 0, 1) := by decide +kernel
theorem dX1_write_46 : decode cX1_write 46 = .ok (.istore_n 3, 1) := by decide +kernel
theorem dX1_write_47 : decode cX1_write 47 = .ok (.iload_n 3, 1) := by decide +kernel
theorem dX1_write_48 : decode cX1_write 48 = .ok (.iload_n 2, 1) := by decide +kernel
theorem dX1_write_49 : decode cX1_write 49 = .ok (.if_icmp .gt 31, 3) := by decide +kernel
theorem dX1_write_52 : decode cX1_write 52 = .ok (.aload_n 0, 1) := by decide +kernel
theorem dX1_write_53 : decode cX1_write 53 = .ok (.getfield 19, 3) := by decide +kernel
theorem dX1_write_56 : decode cX1_write 56 = .ok (.aload_n 0, 1) := by decide +kernel
theorem dX1_write_57 : decode cX1_write 57 = .ok (.getfield 26, 3) := by decide +kernel
theorem dX1_write_60 : decode cX1_write 60 = .ok (.iload_n 1, 1) := by decide +kernel
theorem dX1_write_61 : decode cX1_write 61 = .ok (.iload_n 3, 1) := by decide +kernel
theorem dX1_write_62 : decode cX1_write 62 = .ok (.iadd, 1) := by decide +kernel
theorem dX1_write_63 : decode cX1_write 63 = .ok (.iastore, 1) := by decide +kernel
theorem dX1_write_64 : decode cX1_write 64 = .ok (.aload_n 0, 1) := by decide +kernel
theorem dX1_write_65 : decode cX1_write 65 = .ok (.aload_n 0, 1) := by decide +kernel
theorem dX1_write_66 : decode cX1_write 66 = .ok (.getfield 26, 3) := by decide +kernel
theorem dX1_write_69 : decode cX1_write 69 = .ok (.iconst 1, 1) := by decide +kernel
theorem dX1_write_70 : decode cX1_write 70 = .ok (.iadd, 1) := by decide +kernel
theorem dX1_write_71 : decode cX1_write 71 = .ok (.putfield 26, 3) := by decide +kernel
theorem dX1_write_74 : decode cX1_write 74 = .ok (.iinc 3 1, 3) := by decide +kernel
theorem dX1_write_77 : decode cX1_write 77 = .ok (.goto (-30), 3) := by decide +kernel
theorem dX1_write_80 : decode cX1_write 80 = .ok (.aload_n 0, 1) := by decide +kernel
theorem dX1_write_81 : decode cX1_write 81 = .ok (.getfield 26, 3) := by decide +kernel
theorem dX1_write_84 : decode cX1_write 84 = .ok (.ireturn, 1) := by decide +kernel
theorem dX1_cut_0 : decode cX1_cut 0 = .ok (.iload_n 1, 1) := by decide +kernel
theorem dX1_cut_1 : decode cX1_cut 1 = .ok (.ifCond .lt 11, 3) := by decide +kernel
theorem dX1_cut_4 : decode cX1_cut 4 = .ok (.iload_n 1, 1) := by decide +kernel
theorem dX1_cut_5 : decode cX1_cut 5 = .ok (.aload_n 0, 1) := by decide +kernel
theorem dX1_cut_6 : decode cX1_cut 6 = .ok (.getfield 26, 3) := by decide +kernel
theorem dX1_cut_9 : decode cX1_cut 9 = .ok (.if_icmp .le 5, 3) := by decide +kernel
theorem dX1_cut_12 : decode cX1_cut 12 = .ok (.iconst (-1), 1) := by decide +kernel
theorem dX1_cut_13 : decode cX1_cut 13 = .ok (.ireturn, 1) := by decide +kernel
theorem dX1_cut_14 : decode cX1_cut 14 = .ok (.aload_n 0, 1) := by decide +kernel
theorem dX1_cut_15 : decode cX1_cut 15 = .ok (.getfield 26, 3) := by decide +kernel
theorem dX1_cut_18 : decode cX1_cut 18 = .ok (.istore_n 2, 1) := by decide +kernel
theorem dX1_cut_19 : decode cX1_cut 19 = .ok (.aload_n 0, 1) := by decide +kernel
theorem dX1_cut_20 : decode cX1_cut 20 = .ok (.iload_n 1, 1) := by decide +kernel
theorem dX1_cut_21 : decode cX1_cut 21 = .ok (.putfield 26, 3) := by decide +kernel
theorem dX1_cut_24 : decode cX1_cut 24 = .ok (.iload_n 2, 1) := by decide +kernel
theorem dX1_cut_25 : decode cX1_cut 25 = .ok (.ireturn, 1) := by decide +kernel
theorem dX1_find_0 : decode cX1_find 0 = .ok (.iconst 0, 1) := by decide +kernel
theorem dX1_find_1 : decode cX1_find 1 = .ok (.istore_n 1, 1) := by decide +kernel
theorem dX1_find_2 : decode cX1_find 2 = .ok (.iconst 1, 1) := by decide +kernel
theorem dX1_find_3 : decode cX1_find 3 = .ok (.istore_n 2, 1) := by decide +kernel
theorem dX1_find_4 : decode cX1_find 4 = .ok (.iload_n 2, 1) := by decide +kernel
theorem dX1_find_5 : decode cX1_find 5 = .ok (.aload_n 0, 1) := by decide +kernel
theorem dX1_find_6 : decode cX1_find 6 = .ok (.getfield 30, 3) := by decide +kernel
theorem dX1_find_9 : decode cX1_find 9 = .ok (.if_icmp .gt 94, 3) := by decide +kernel
theorem dX1_find_12 : decode cX1_find 12 = .ok (.iload_n 1, 1) := by decide +kernel
theorem dX1_find_13 : decode cX1_find 13 = .ok (.ifCond .ne 90, 3) := by decide +kernel
theorem dX1_find_16 : decode cX1_find 16 = .ok (.aload_n 0, 1) := by decide +kernel
theorem dX1_find_17 : decode cX1_find 17 = .ok (.getfield 16, 3) := by decide +kernel
theorem dX1_find_20 : decode cX1_find 20 = .ok (.iload_n 2, 1) := by decide +kernel
theorem dX1_find_21 : decode cX1_find 21 = .ok (.iaload, 1) := by decide +kernel
theorem dX1_find_22 : decode cX1_find 22 = .ok (.aload_n 0, 1) := by decide +kernel
theorem dX1_find_23 : decode cX1_find 23 = .ok (.getfield 33, 3) := by decide +kernel
theorem dX1_find_26 : decode cX1_find 26 = .ok (.if_icmp .ne 7, 3) := by decide +kernel
theorem dX1_find_29 : decode cX1_find 29 = .ok (.iconst 1, 1) := by decide +kernel
theorem dX1_find_30 : decode cX1_find 30 = .ok (.goto 4, 3) := by decide +kernel
theorem dX1_find_33 : decode cX1_find 33 = .ok (.iconst 0, 1) := by decide +kernel
theorem dX1_find_34 : decode cX1_find 34 = .ok (.istore_n 3, 1) := by decide +kernel
theorem dX1_find_35 : decode cX1_find 35 = .ok (.iconst 0, 1) := by decide +kernel
theorem dX1_find_36 : decode cX1_find 36 = .ok (.istore 4, 2) := by decide +kernel
theorem dX1_find_38 : decode cX1_find 38 = .ok (.iload 4, 2) := by decide +kernel
theorem dX1_find_40 : decode cX1_find 40 = .ok (.aload_n 0, 1) := by decide +kernel
theorem dX1_find_41 : decode cX1_find 41 = .ok (.getfield 33, 3) := by decide +kernel
theorem dX1_find_44 : decode cX1_find 44 = .ok (.if_icmp .ge 43, 3) := by decide +kernel
theorem dX1_find_47 : decode cX1_find 47 = .ok (.iload_n 3, 1) := by decide +kernel
theorem dX1_find_48 : decode cX1_find 48 = .ok (.ifCond .eq 39, 3) := by decide +kernel
theorem dX1_find_51 : decode cX1_find 51 = .ok (.aload_n 0, 1) := by decide +kernel
theorem dX1_find_52 : decode cX1_find 52 = .ok (.getfield 7, 3) := by decide +kernel
theorem dX1_find_55 : decode cX1_find 55 = .ok (.aload_n 0, 1) := by decide +kernel
theorem dX1_find_56 : decode cX1_find 56 = .ok (.getfield 13, 3) := by decide +kernel
theorem dX1_find_59 : decode cX1_find 59 = .ok (.iload_n 2, 1) := by decide +kernel
theorem dX1_find_60 : decode cX1_find 60 = .ok (.iaload, 1) := by decide +kernel
theorem dX1_find_61 : decode cX1_find 61 = .ok (.iload 4, 2) := by decide +kernel
theorem dX1_find_63 : decode cX1_find 63 = .ok (.iadd, 1) := by decide +kernel
theorem dX1_find_64 : decode cX1_find 64 = .ok (.iaload, 1) := by decide +kernel
theorem dX1_find_65 : decode cX1_find 65 = .ok (.aload_n 0, 1) := by decide +kernel
theorem dX1_find_66 : decode cX1_find 66 = .ok (.getfield 22, 3) := by decide +kernel
theorem dX1_find_69 : decode cX1_find 69 = .ok (.iload 4, 2) := by decide +kernel
theorem dX1_find_71 : decode cX1_find 71 = .ok (.iaload, 1) := by decide +kernel
theorem dX1_find_72 : decode cX1_find 72 = .ok (.if_icmp .ne 7, 3) := by decide +kernel
theorem dX1_find_75 : decode cX1_find 75 = .ok (.iconst 1, 1) := by decide +kernel
theorem dX1_find_76 : decode cX1_find 76 = .ok (.goto 4, 3) := by decide +kernel
theorem dX1_find_79 : decode cX1_find 79 = .ok (.iconst 0, 1) := by decide +kernel
theorem dX1_find_80 : decode cX1_find 80 = .ok (.istore_n 3, 1) := by decide +kernel
theorem dX1_find_81 : decode cX1_find 81 = .ok (.iinc 4 1, 3) := by decide +kernel
theorem dX1_find_84 : decode cX1_find 84 = .ok (.goto (-46), 3) := by decide +kernel
theorem dX1_find_87 : decode cX1_find 87 = .ok (.iload_n 3, 1) := by decide +kernel
theorem dX1_find_88 : decode cX1_find 88 = .ok (.ifCond .eq 7, 3) := by decide +kernel
theorem dX1_find_91 : decode cX1_find 91 = .ok (.iload_n 2, 1) := by decide +kernel
theorem dX1_find_92 : decode cX1_find 92 = .ok (.goto 4, 3) := by decide +kernel
theorem dX1_find_95 : decode cX1_find 95 = .ok (.iconst 0, 1) := by decide +kernel
theorem dX1_find_96 : decode cX1_find 96 = .ok (.istore_n 1, 1) := by decide +kernel
theorem dX1_find_97 : decode cX1_find 97 = .ok (.iinc 2 1, 3) := by decide +kernel
theorem dX1_find_100 : decode cX1_find 100 = .ok (.goto (-96), 3) := by decide +kernel
theorem dX1_find_103 : decode cX1_find 103 = .ok (.iload_n 1, 1) := by decide +kernel
theorem dX1_find_104 : decode cX1_find 104 = .ok (.ireturn, 1) := by decide +kernel
set_option maxRecDepth 20000 in
theorem ggX1_get_X1_find : GoodIn wsX1_get wsX1_find := goodIn_r _ [12, 1, 5, 3, 6, 4, 7, 13, 14, 15, 16, 17, 18, 19, 20, 21] (by decide +kernel) (by decide +kernel)
set_option maxRecDepth 20000 in
theorem gX1_get_X1_find : GoodIn wsX1_get (wsV RX1 36 RX1 yX1_find wsX1_find) := goodIn_app (goodIn_of _ (by decide +kernel)) ggX1_get_X1_find
theorem dX1_get_0 : decode cX1_get 0 = .ok (.aload_n 0, 1) := by decide +kernel
theorem dX1_get_1 : decode cX1_get 1 = .ok (.invokevirtual 36, 3) := by decide +kernel
theorem dX1_get_4 : decode cX1_get 4 = .ok (.istore_n 1, 1) := by decide +kernel
theorem dX1_get_5 : decode cX1_get 5 = .ok (.iload_n 1, 1) := by decide +kernel
theorem dX1_get_6 : decode cX1_get 6 = .ok (.ifCond .le 5, 3) := by decide +kernel
theorem dX1_get_9 : decode cX1_get 9 = .ok (.iload_n 1, 1) := by decide +kernel
theorem dX1_get_10 : decode cX1_get 10 = .ok (.ireturn, 1) := by decide +kernel
theorem dX1_get_11 : decode cX1_get 11 = .ok (.aload_n 0, 1) := by decide +kernel
theorem dX1_get_12 : decode cX1_get 12 = .ok (.getfield 30, 3) := by decide +kernel
theorem dX1_get_15 : decode cX1_get 15 = .ok (.sipush 3000, 3) := by decide +kernel
theorem dX1_get_18 : decode cX1_get 18 = .ok (.if_icmp .eq 18, 3) := by decide +kernel
theorem dX1_get_21 : decode cX1_get 21 = .ok (.aload_n 0, 1) := by decide +kernel
theorem dX1_get_22 : decode cX1_get 22 = .ok (.getfield 40, 3) := by decide +kernel
theorem dX1_get_25 : decode cX1_get 25 = .ok (.aload_n 0, 1) := by decide +kernel
theorem dX1_get_26 : decode cX1_get 26 = .ok (.getfield 33, 3) := by decide +kernel
theorem dX1_get_29 : decode cX1_get 29 = .ok (.iadd, 1) := by decide +kernel
theorem dX1_get_30 : decode cX1_get 30 = .ok (.sipush 20000, 3) := by decide +kernel
theorem dX1_get_33 : decode cX1_get 33 = .ok (.if_icmp .le 5, 3) := by decide +kernel
theorem dX1_get_36 : decode cX1_get 36 = .ok (.iconst (-1), 1) := by decide +kernel
theorem dX1_get_37 : decode cX1_get 37 = .ok (.ireturn, 1) := by decide +kernel
theorem dX1_get_38 : decode cX1_get 38 = .ok (.aload_n 0, 1) := by decide +kernel
theorem dX1_get_39 : decode cX1_get 39 = .ok (.aload_n 0, 1) := by decide +kernel
theorem dX1_get_40 : decode cX1_get 40 = .ok (.getfield 30, 3) := by decide +kernel
theorem dX1_get_43 : decode cX1_get 43 = .ok (.iconst 1, 1) := by decide +kernel
theorem dX1_get_44 : decode cX1_get 44 = .ok (.iadd, 1) := by decide +kernel
theorem dX1_get_45 : decode cX1_get 45 = .ok (.putfield 30, 3) := by decide +kernel
theorem dX1_get_48 : decode cX1_get 48 = .ok (.aload_n 0, 1) := by decide +kernel
theorem dX1_get_49 : decode cX1_get 49 = .ok (.getfield 13, 3) := by decide +kernel
theorem dX1_get_52 : decode cX1_get 52 = .ok (.aload_n 0, 1) := by decide +kernel
theorem dX1_get_53 : decode cX1_get 53 = .ok (.getfield 30, 3) := by decide +kernel
theorem dX1_get_56 : decode cX1_get 56 = .ok (.aload_n 0, 1) := by decide +kernel
theorem dX1_get_57 : decode cX1_get 57 = .ok (.getfield 40, 3) := by decide +kernel
theorem dX1_get_60 : decode cX1_get 60 = .ok (.iastore, 1) := by decide +kernel
theorem dX1_get_61 : decode cX1_get 61 = .ok (.aload_n 0, 1) := by decide +kernel
theorem dX1_get_62 : decode cX1_get 62 = .ok (.getfield 16, 3) := by decide +kernel
theorem dX1_get_65 : decode cX1_get 65 = .ok (.aload_n 0, 1) := by decide +kernel
theorem dX1_get_66 : decode cX1_get 66 = .ok (.getfield 30, 3) := by decide +kernel
theorem dX1_get_69 : decode cX1_get 69 = .ok (.aload_n 0, 1) := by decide +kernel
theorem dX1_get_70 : decode cX1_get 70 = .ok (.getfield 33, 3) := by decide +kernel
theorem dX1_get_73 : decode cX1_get 73 = .ok (.iastore, 1) := by decide +kernel
theorem dX1_get_74 : decode cX1_get 74 = .ok (.iconst 0, 1) := by decide +kernel
theorem dX1_get_75 : decode cX1_get 75 = .ok (.istore_n 2, 1) := by decide +kernel
theorem dX1_get_76 : decode cX1_get 76 = .ok (.iload_n 2, 1) := by decide +kernel
theorem dX1_get_77 : decode cX1_get 77 = .ok (.aload_n 0, 1) := by decide +kernel
theorem dX1_get_78 : decode cX1_get 78 = .ok (.getfield 33, 3) := by decide +kernel
theorem dX1_get_81 : decode cX1_get 81 = .ok (.if_icmp .ge 34, 3) := by decide +kernel
theorem dX1_get_84 : decode cX1_get 84 = .ok (.aload_n 0, 1) := by decide +kernel
theorem dX1_get_85 : decode cX1_get 85 = .ok (.getfield 7, 3) := by decide +kernel
theorem dX1_get_88 : decode cX1_get 88 = .ok (.aload_n 0, 1) := by decide +kernel
theorem dX1_get_89 : decode cX1_get 89 = .ok (.getfield 40, 3) := by decide +kernel
theorem dX1_get_92 : decode cX1_get 92 = .ok (.aload_n 0, 1) := by decide +kernel
theorem dX1_get_93 : decode cX1_get 93 = .ok (.getfield 22, 3) := by decide +kernel
theorem dX1_get_96 : decode cX1_get 96 = .ok (.iload_n 2, 1) := by decide +kernel
theorem dX1_get_97 : decode cX1_get 97 = .ok (.iaload, 1) := by decide +kernel
theorem dX1_get_98 : decode cX1_get 98 = .ok (.iastore, 1) := by decide +kernel
theorem dX1_get_99 : decode cX1_get 99 = .ok (.aload_n 0, 1) := by decide +kernel
theorem dX1_get_100 : decode cX1_get 100 = .ok (.aload_n 0, 1) := by decide +kernel
theorem dX1_get_101 : decode cX1_get 101 = .ok (.getfield 40, 3) := by decide +kernel
theorem dX1_get_104 : decode cX1_get 104 = .ok (.iconst 1, 1) := by decide +kernel
theorem dX1_get_105 : decode cX1_get 105 = .ok (.iadd, 1) := by decide +kernel
theorem dX1_get_106 : decode cX1_get 106 = .ok (.putfield 40, 3) := by decide +kernel
theorem dX1_get_109 : decode cX1_get 109 = .ok (.iinc 2 1, 3) := by decide +kernel
theorem dX1_get_112 : decode cX1_get 112 = .ok (.goto (-36), 3) := by decide +kernel
theorem dX1_get_115 : decode cX1_get 115 = .ok (.aload_n 0, 1) := by decide +kernel
theorem dX1_get_116 : decode cX1_get 116 = .ok (.getfield 30, 3) := by decide +kernel
theorem dX1_get_119 : decode cX1_get 119 = .ok (.ireturn, 1) := by decide +kernel
theorem dX1_seekDraft_0 : decode cX1_seekDraft 0 = .ok (.aload_n 0, 1) := by decide +kernel
theorem dX1_seekDraft_1 : decode cX1_seekDraft 1 = .ok (.aload_n 0, 1) := by decide +kernel
theorem dX1_seekDraft_2 : decode cX1_seekDraft 2 = .ok (.getfield 26, 3) := by decide +kernel
theorem dX1_seekDraft_5 : decode cX1_seekDraft 5 = .ok (.putfield 33, 3) := by decide +kernel
theorem dX1_seekDraft_8 : decode cX1_seekDraft 8 = .ok (.iconst 0, 1) := by decide +kernel
theorem dX1_seekDraft_9 : decode cX1_seekDraft 9 = .ok (.istore_n 1, 1) := by decide +kernel
theorem dX1_seekDraft_10 : decode cX1_seekDraft 10 = .ok (.iload_n 1, 1) := by decide +kernel
theorem dX1_seekDraft_11 : decode cX1_seekDraft 11 = .ok (.aload_n 0, 1) := by decide +kernel
theorem dX1_seekDraft_12 : decode cX1_seekDraft 12 = .ok (.getfield 26, 3) := by decide +kernel
theorem dX1_seekDraft_15 : decode cX1_seekDraft 15 = .ok (.if_icmp .ge 21, 3) := by decide +kernel
theorem dX1_seekDraft_18 : decode cX1_seekDraft 18 = .ok (.aload_n 0, 1) := by decide +kernel
theorem dX1_seekDraft_19 : decode cX1_seekDraft 19 = .ok (.getfield 22, 3) := by decide +kernel
theorem dX1_seekDraft_22 : decode cX1_seekDraft 22 = .ok (.iload_n 1, 1) := by decide +kernel
theorem dX1_seekDraft_23 : decode cX1_seekDraft 23 = .ok (.aload_n 0, 1) := by decide +kernel
theorem dX1_seekDraft_24 : decode cX1_seekDraft 24 = .ok (.getfield 19, 3) := by decide +kernel
theorem dX1_seekDraft_27 : decode cX1_seekDraft 27 = .ok (.iload_n 1, 1) := by decide +kernel
theorem dX1_seekDraft_28 : decode cX1_seekDraft 28 = .ok (.iaload, 1) := by decide +kernel
theorem dX1_seekDraft_29 : decode cX1_seekDraft 29 = .ok (.iastore, 1) := by decide +kernel
theorem dX1_seekDraft_30 : decode cX1_seekDraft 30 = .ok (.iinc 1 1, 3) := by decide +kernel
theorem dX1_seekDraft_33 : decode cX1_seekDraft 33 = .ok (.goto (-23), 3) := by decide +kernel
theorem dX1_seekDraft_36 : decode cX1_seekDraft 36 = .ok (.return_, 1) := by decide +kernel
set_option maxRecDepth 20000 in
theorem ggX1_number_X1_seekDraft : GoodIn wsX1_number wsX1_seekDraft := goodIn_r _ [6, 1, 7, 8, 9, 23, 24, 25, 26, 27, 28, 29, 30, 31] (by decide +kernel) (by decide +kernel)
set_option maxRecDepth 20000 in
theorem gX1_number_X1_seekDraft : GoodIn wsX1_number (wsV RX1 43 RX1 yX1_seekDraft wsX1_seekDraft) := goodIn_app (goodIn_of _ (by decide +kernel)) ggX1_number_X1_seekDraft
set_option maxRecDepth 20000 in
theorem ggX1_number_X1_get : GoodIn wsX1_number wsX1_get := goodIn_r _ [13, 14, 15, 7, 16, 17, 18, 8, 19, 20, 21, 5, 22, 23, 24, 25, 26, 27, 28, 29, 30, 31] (by decide +kernel) (by decide +kernel)
set_option maxRecDepth 20000 in
theorem gX1_number_X1_get : GoodIn wsX1_number (wsV RX1 46 RX1 yX1_get wsX1_get) := goodIn_app (goodIn_of _ (by decide +kernel)) ggX1_number_X1_get
theorem dX1_number_0 : decode cX1_number 0 = .ok (.aload_n 0, 1) := by decide +kernel
theorem dX1_number_1 : decode cX1_number 1 = .ok (.invokevirtual 43, 3) := by decide +kernel
theorem dX1_number_4 : decode cX1_number 4 = .ok (.aload_n 0, 1) := by decide +kernel
theorem dX1_number_5 : decode cX1_number 5 = .ok (.invokevirtual 46, 3) := by decide +kernel
theorem dX1_number_8 : decode cX1_number 8 = .ok (.istore_n 1, 1) := by decide +kernel
theorem dX1_number_9 : decode cX1_number 9 = .ok (.aload_n 0, 1) := by decide +kernel
theorem dX1_number_10 : decode cX1_number 10 = .ok (.iload_n 1, 1) := by decide +kernel
theorem dX1_number_11 : decode cX1_number 11 = .ok (.ifCond .ge 10, 3) := by decide +kernel
theorem dX1_number_14 : decode cX1_number 14 = .ok (.aload_n 0, 1) := by decide +kernel
theorem dX1_number_15 : decode cX1_number 15 = .ok (.getfield 26, 3) := by decide +kernel
theorem dX1_number_18 : decode cX1_number 18 = .ok (.goto 4, 3) := by decide +kernel
theorem dX1_number_21 : decode cX1_number 21 = .ok (.iconst 0, 1) := by decide +kernel
theorem dX1_number_22 : decode cX1_number 22 = .ok (.putfield 26, 3) := by decide +kernel
theorem dX1_number_25 : decode cX1_number 25 = .ok (.iload_n 1, 1) := by decide +kernel
theorem dX1_number_26 : decode cX1_number 26 = .ok (.ireturn, 1) := by decide +kernel
set_option maxRecDepth 20000 in
theorem ggX1_isKnown_X1_seekDraft : GoodIn wsX1_isKnown wsX1_seekDraft := goodIn_r _ [5, 6, 7, 8, 9, 18, 19, 20, 21, 22, 23, 24, 25, 26] (by decide +kernel) (by decide +kernel)
set_option maxRecDepth 20000 in
theorem gX1_isKnown_X1_seekDraft : GoodIn wsX1_isKnown (wsV RX1 43 RX1 yX1_seekDraft wsX1_seekDraft) := goodIn_app (goodIn_of _ (by decide +kernel)) ggX1_isKnown_X1_seekDraft
set_option maxRecDepth 20000 in
theorem ggX1_isKnown_X1_find : GoodIn wsX1_isKnown wsX1_find := goodIn_r _ [13, 14, 15, 7, 16, 17, 8, 18, 19, 20, 21, 22, 23, 24, 25, 26] (by decide +kernel) (by decide +kernel)
set_option maxRecDepth 20000 in
theorem gX1_isKnown_X1_find : GoodIn wsX1_isKnown (wsV RX1 36 RX1 yX1_find wsX1_find) := goodIn_app (goodIn_of _ (by decide +kernel)) ggX1_isKnown_X1_find
theorem dX1_isKnown_0 : decode cX1_isKnown 0 = .ok (.aload_n 0, 1) := by decide +kernel
theorem dX1_isKnown_1 : decode cX1_isKnown 1 = .ok (.invokevirtual 43, 3) := by decide +kernel
theorem dX1_isKnown_4 : decode cX1_isKnown 4 = .ok (.aload_n 0, 1) := by decide +kernel
theorem dX1_isKnown_5 : decode cX1_isKnown 5 = .ok (.invokevirtual 36, 3) := by decide +kernel
theorem dX1_isKnown_8 : decode cX1_isKnown 8 = .ok (.ifCond .le 7, 3) := by decide +kernel
theorem dX1_isKnown_11 : decode cX1_isKnown 11 = .ok (.iconst 1, 1) := by decide +kernel
theorem dX1_isKnown_12 : decode cX1_isKnown 12 = .ok (.goto 4, 3) := by decide +kernel
theorem dX1_isKnown_15 : decode cX1_isKnown 15 = .ok (.iconst 0, 1) := by decide +kernel
theorem dX1_isKnown_16 : decode cX1_isKnown 16 = .ok (.ireturn, 1) := by decide +kernel
theorem dX1_isRow_0 : decode cX1_isRow 0 = .ok (.iload_n 1, 1) := by decide +kernel
theorem dX1_isRow_1 : decode cX1_isRow 1 = .ok (.iconst 1, 1) := by decide +kernel
theorem dX1_isRow_2 : decode cX1_isRow 2 = .ok (.if_icmp .lt 15, 3) := by decide +kernel
theorem dX1_isRow_5 : decode cX1_isRow 5 = .ok (.iload_n 1, 1) := by decide +kernel
theorem dX1_isRow_6 : decode cX1_isRow 6 = .ok (.aload_n 0, 1) := by decide +kernel
theorem dX1_isRow_7 : decode cX1_isRow 7 = .ok (.getfield 30, 3) := by decide +kernel
theorem dX1_isRow_10 : decode cX1_isRow 10 = .ok (.if_icmp .gt 7, 3) := by decide +kernel
theorem dX1_isRow_13 : decode cX1_isRow 13 = .ok (.iconst 1, 1) := by decide +kernel
theorem dX1_isRow_14 : decode cX1_isRow 14 = .ok (.goto 4, 3) := by decide +kernel
theorem dX1_isRow_17 : decode cX1_isRow 17 = .ok (.iconst 0, 1) := by decide +kernel
theorem dX1_isRow_18 : decode cX1_isRow 18 = .ok (.ireturn, 1) := by decide +kernel
set_option maxRecDepth 20000 in
theorem ggX1_take_X1_isRow : GoodIn wsX1_take wsX1_isRow := goodIn_r _ [10, 11, 12, 13, 14, 15, 16, 17, 18, 19, 20] (by decide +kernel) (by decide +kernel)
set_option maxRecDepth 20000 in
theorem gX1_take_X1_isRow : GoodIn wsX1_take (wsV RX1 49 RX1 yX1_isRow wsX1_isRow) := goodIn_app (goodIn_of _ (by decide +kernel)) ggX1_take_X1_isRow
theorem dX1_take_0 : decode cX1_take 0 = .ok (.aload_n 0, 1) := by decide +kernel
theorem dX1_take_1 : decode cX1_take 1 = .ok (.iload_n 1, 1) := by decide +kernel
theorem dX1_take_2 : decode cX1_take 2 = .ok (.invokevirtual 49, 3) := by decide +kernel
theorem dX1_take_5 : decode cX1_take 5 = .ok (.ifCond .eq 20, 3) := by decide +kernel
theorem dX1_take_8 : decode cX1_take 8 = .ok (.aload_n 0, 1) := by decide +kernel
theorem dX1_take_9 : decode cX1_take 9 = .ok (.getfield 26, 3) := by decide +kernel
theorem dX1_take_12 : decode cX1_take 12 = .ok (.aload_n 0, 1) := by decide +kernel
theorem dX1_take_13 : decode cX1_take 13 = .ok (.getfield 16, 3) := by decide +kernel
theorem dX1_take_16 : decode cX1_take 16 = .ok (.iload_n 1, 1) := by decide +kernel
theorem dX1_take_17 : decode cX1_take 17 = .ok (.iaload, 1) := by decide +kernel
theorem dX1_take_18 : decode cX1_take 18 = .ok (.iadd, 1) := by decide +kernel
theorem dX1_take_19 : decode cX1_take 19 = .ok (.sipush 2000, 3) := by decide +kernel
theorem dX1_take_22 : decode cX1_take 22 = .ok (.if_icmp .le 5, 3) := by decide +kernel
theorem dX1_take_25 : decode cX1_take 25 = .ok (.iconst (-1), 1) := by decide +kernel
theorem dX1_take_26 : decode cX1_take 26 = .ok (.ireturn, 1) := by decide +kernel
theorem dX1_take_27 : decode cX1_take 27 = .ok (.iconst 0, 1) := by decide +kernel
theorem dX1_take_28 : decode cX1_take 28 = .ok (.istore_n 2, 1) := by decide +kernel
theorem dX1_take_29 : decode cX1_take 29 = .ok (.iload_n 2, 1) := by decide +kernel
theorem dX1_take_30 : decode cX1_take 30 = .ok (.aload_n 0, 1) := by decide +kernel
theorem dX1_take_31 : decode cX1_take 31 = .ok (.getfield 16, 3) := by decide +kernel
theorem dX1_take_34 : decode cX1_take 34 = .ok (.iload_n 1, 1) := by decide +kernel
theorem dX1_take_35 : decode cX1_take 35 = .ok (.iaload, 1) := by decide +kernel
theorem dX1_take_36 : decode cX1_take 36 = .ok (.if_icmp .ge 41, 3) := by decide +kernel
theorem dX1_take_39 : decode cX1_take 39 = .ok (.aload_n 0, 1) := by decide +kernel
theorem dX1_take_40 : decode cX1_take 40 = .ok (.getfield 19, 3) := by decide +kernel
theorem dX1_take_43 : decode cX1_take 43 = .ok (.aload_n 0, 1) := by decide +kernel
theorem dX1_take_44 : decode cX1_take 44 = .ok (.getfield 26, 3) := by decide +kernel
theorem dX1_take_47 : decode cX1_take 47 = .ok (.aload_n 0, 1) := by decide +kernel
theorem dX1_take_48 : decode cX1_take 48 = .ok (.getfield 7, 3) := by decide +kernel
theorem dX1_take_51 : decode cX1_take 51 = .ok (.aload_n 0, 1) := by decide +kernel
theorem dX1_take_52 : decode cX1_take 52 = .ok (.getfield 13, 3) := by decide +kernel
theorem dX1_take_55 : decode cX1_take 55 = .ok (.iload_n 1, 1) := by decide +kernel
theorem dX1_take_56 : decode cX1_take 56 = .ok (.iaload, 1) := by decide +kernel
theorem dX1_take_57 : decode cX1_take 57 = .ok (.iload_n 2, 1) := by decide +kernel
theorem dX1_take_58 : decode cX1_take 58 = .ok (.iadd, 1) := by decide +kernel
theorem dX1_take_59 : decode cX1_take 59 = .ok (.iaload, 1) := by decide +kernel
theorem dX1_take_60 : decode cX1_take 60 = .ok (.iastore, 1) := by decide +kernel
theorem dX1_take_61 : decode cX1_take 61 = .ok (.aload_n 0, 1) := by decide +kernel
theorem dX1_take_62 : decode cX1_take 62 = .ok (.aload_n 0, 1) := by decide +kernel
theorem dX1_take_63 : decode cX1_take 63 = .ok (.getfield 26, 3) := by decide +kernel
theorem dX1_take_66 : decode cX1_take 66 = .ok (.iconst 1, 1) := by decide +kernel
theorem dX1_take_67 : decode cX1_take 67 = .ok (.iadd, 1) := by decide +kernel
theorem dX1_take_68 : decode cX1_take 68 = .ok (.putfield 26, 3) := by decide +kernel
theorem dX1_take_71 : decode cX1_take 71 = .ok (.iinc 2 1, 3) := by decide +kernel
theorem dX1_take_74 : decode cX1_take 74 = .ok (.goto (-45), 3) := by decide +kernel
theorem dX1_take_77 : decode cX1_take 77 = .ok (.aload_n 0, 1) := by decide +kernel
theorem dX1_take_78 : decode cX1_take 78 = .ok (.getfield 26, 3) := by decide +kernel
theorem dX1_take_81 : decode cX1_take 81 = .ok (.ireturn, 1) := by decide +kernel
theorem dX1_rows_0 : decode cX1_rows 0 = .ok (.aload_n 0, 1) := by decide +kernel
theorem dX1_rows_1 : decode cX1_rows 1 = .ok (.getfield 30, 3) := by decide +kernel
theorem dX1_rows_4 : decode cX1_rows 4 = .ok (.ireturn, 1) := by decide +kernel
set_option maxRecDepth 20000 in
theorem ggX1_length_X1_isRow : GoodIn wsX1_length wsX1_isRow := goodIn_r _ [6, 7, 8, 9, 10, 11, 12, 13, 14, 15, 16] (by decide +kernel) (by decide +kernel)
set_option maxRecDepth 20000 in
theorem gX1_length_X1_isRow : GoodIn wsX1_length (wsV RX1 49 RX1 yX1_isRow wsX1_isRow) := goodIn_app (goodIn_of _ (by decide +kernel)) ggX1_length_X1_isRow
theorem dX1_length_0 : decode cX1_length 0 = .ok (.aload_n 0, 1) := by decide +kernel
theorem dX1_length_1 : decode cX1_length 1 = .ok (.iload_n 1, 1) := by decide +kernel
theorem dX1_length_2 : decode cX1_length 2 = .ok (.invokevirtual 49, 3) := by decide +kernel
theorem dX1_length_5 : decode cX1_length 5 = .ok (.ifCond .eq 12, 3) := by decide +kernel
theorem dX1_length_8 : decode cX1_length 8 = .ok (.aload_n 0, 1) := by decide +kernel
theorem dX1_length_9 : decode cX1_length 9 = .ok (.getfield 16, 3) := by decide +kernel
theorem dX1_length_12 : decode cX1_length 12 = .ok (.iload_n 1, 1) := by decide +kernel
theorem dX1_length_13 : decode cX1_length 13 = .ok (.iaload, 1) := by decide +kernel
theorem dX1_length_14 : decode cX1_length 14 = .ok (.goto 4, 3) := by decide +kernel
theorem dX1_length_17 : decode cX1_length 17 = .ok (.iconst (-1), 1) := by decide +kernel
theorem dX1_length_18 : decode cX1_length 18 = .ok (.ireturn, 1) := by decide +kernel
set_option maxRecDepth 20000 in
theorem ggX1_sign_X1_isRow : GoodIn wsX1_sign wsX1_isRow := goodIn_r _ [8, 9, 10, 11, 12, 13, 14, 15, 16, 17, 18] (by decide +kernel) (by decide +kernel)
set_option maxRecDepth 20000 in
theorem gX1_sign_X1_isRow : GoodIn wsX1_sign (wsV RX1 49 RX1 yX1_isRow wsX1_isRow) := goodIn_app (goodIn_of _ (by decide +kernel)) ggX1_sign_X1_isRow
theorem dX1_sign_0 : decode cX1_sign 0 = .ok (.aload_n 0, 1) := by decide +kernel
theorem dX1_sign_1 : decode cX1_sign 1 = .ok (.iload_n 1, 1) := by decide +kernel
theorem dX1_sign_2 : decode cX1_sign 2 = .ok (.invokevirtual 49, 3) := by decide +kernel
theorem dX1_sign_5 : decode cX1_sign 5 = .ok (.ifCond .eq 33, 3) := by decide +kernel
theorem dX1_sign_8 : decode cX1_sign 8 = .ok (.iload_n 2, 1) := by decide +kernel
theorem dX1_sign_9 : decode cX1_sign 9 = .ok (.ifCond .lt 29, 3) := by decide +kernel
theorem dX1_sign_12 : decode cX1_sign 12 = .ok (.iload_n 2, 1) := by decide +kernel
theorem dX1_sign_13 : decode cX1_sign 13 = .ok (.aload_n 0, 1) := by decide +kernel
theorem dX1_sign_14 : decode cX1_sign 14 = .ok (.getfield 16, 3) := by decide +kernel
theorem dX1_sign_17 : decode cX1_sign 17 = .ok (.iload_n 1, 1) := by decide +kernel
theorem dX1_sign_18 : decode cX1_sign 18 = .ok (.iaload, 1) := by decide +kernel
theorem dX1_sign_19 : decode cX1_sign 19 = .ok (.if_icmp .ge 19, 3) := by decide +kernel
theorem dX1_sign_22 : decode cX1_sign 22 = .ok (.aload_n 0, 1) := by decide +kernel
theorem dX1_sign_23 : decode cX1_sign 23 = .ok (.getfield 7, 3) := by decide +kernel
theorem dX1_sign_26 : decode cX1_sign 26 = .ok (.aload_n 0, 1) := by decide +kernel
theorem dX1_sign_27 : decode cX1_sign 27 = .ok (.getfield 13, 3) := by decide +kernel
theorem dX1_sign_30 : decode cX1_sign 30 = .ok (.iload_n 1, 1) := by decide +kernel
theorem dX1_sign_31 : decode cX1_sign 31 = .ok (.iaload, 1) := by decide +kernel
theorem dX1_sign_32 : decode cX1_sign 32 = .ok (.iload_n 2, 1) := by decide +kernel
theorem dX1_sign_33 : decode cX1_sign 33 = .ok (.iadd, 1) := by decide +kernel
theorem dX1_sign_34 : decode cX1_sign 34 = .ok (.iaload, 1) := by decide +kernel
theorem dX1_sign_35 : decode cX1_sign 35 = .ok (.goto 4, 3) := by decide +kernel
theorem dX1_sign_38 : decode cX1_sign 38 = .ok (.iconst (-1), 1) := by decide +kernel
theorem dX1_sign_39 : decode cX1_sign 39 = .ok (.ireturn, 1) := by decide +kernel
theorem dX1_order_0 : decode cX1_order 0 = .ok (.iconst 0, 1) := by decide +kernel
theorem dX1_order_1 : decode cX1_order 1 = .ok (.istore_n 3, 1) := by decide +kernel
theorem dX1_order_2 : decode cX1_order 2 = .ok (.iload_n 3, 1) := by decide +kernel
theorem dX1_order_3 : decode cX1_order 3 = .ok (.aload_n 0, 1) := by decide +kernel
theorem dX1_order_4 : decode cX1_order 4 = .ok (.getfield 16, 3) := by decide +kernel
theorem dX1_order_7 : decode cX1_order 7 = .ok (.iload_n 1, 1) := by decide +kernel
theorem dX1_order_8 : decode cX1_order 8 = .ok (.iaload, 1) := by decide +kernel
theorem dX1_order_9 : decode cX1_order 9 = .ok (.if_icmp .ge 49, 3) := by decide +kernel
theorem dX1_order_12 : decode cX1_order 12 = .ok (.iload_n 3, 1) := by decide +kernel
theorem dX1_order_13 : decode cX1_order 13 = .ok (.aload_n 0, 1) := by decide +kernel
theorem dX1_order_14 : decode cX1_order 14 = .ok (.getfield 16, 3) := by decide +kernel
theorem dX1_order_17 : decode cX1_order 17 = .ok (.iload_n 2, 1) := by decide +kernel
theorem dX1_order_18 : decode cX1_order 18 = .ok (.iaload, 1) := by decide +kernel
theorem dX1_order_19 : decode cX1_order 19 = .ok (.if_icmp .ge 39, 3) := by decide +kernel
theorem dX1_order_22 : decode cX1_order 22 = .ok (.aload_n 0, 1) := by decide +kernel
theorem dX1_order_23 : decode cX1_order 23 = .ok (.getfield 7, 3) := by decide +kernel
theorem dX1_order_26 : decode cX1_order 26 = .ok (.aload_n 0, 1) := by decide +kernel
theorem dX1_order_27 : decode cX1_order 27 = .ok (.getfield 13, 3) := by decide +kernel
theorem dX1_order_30 : decode cX1_order 30 = .ok (.iload_n 1, 1) := by decide +kernel
theorem dX1_order_31 : decode cX1_order 31 = .ok (.iaload, 1) := by decide +kernel
theorem dX1_order_32 : decode cX1_order 32 = .ok (.iload_n 3, 1) := by decide +kernel
theorem dX1_order_33 : decode cX1_order 33 = .ok (.iadd, 1) := by decide +kernel
theorem dX1_order_34 : decode cX1_order 34 = .ok (.iaload, 1) := by decide +kernel
theorem dX1_order_35 : decode cX1_order 35 = .ok (.aload_n 0, 1) := by decide +kernel
theorem dX1_order_36 : decode cX1_order 36 = .ok (.getfield 7, 3) := by decide +kernel
theorem dX1_order_39 : decode cX1_order 39 = .ok (.aload_n 0, 1) := by decide +kernel
theorem dX1_order_40 : decode cX1_order 40 = .ok (.getfield 13, 3) := by decide +kernel
theorem dX1_order_43 : decode cX1_order 43 = .ok (.iload_n 2, 1) := by decide +kernel
theorem dX1_order_44 : decode cX1_order 44 = .ok (.iaload, 1) := by decide +kernel
theorem dX1_order_45 : decode cX1_order 45 = .ok (.iload_n 3, 1) := by decide +kernel
theorem dX1_order_46 : decode cX1_order 46 = .ok (.iadd, 1) := by decide +kernel
theorem dX1_order_47 : decode cX1_order 47 = .ok (.iaload, 1) := by decide +kernel
theorem dX1_order_48 : decode cX1_order 48 = .ok (.if_icmp .ne 10, 3) := by decide +kernel
theorem dX1_order_51 : decode cX1_order 51 = .ok (.iload_n 3, 1) := by decide +kernel
theorem dX1_order_52 : decode cX1_order 52 = .ok (.iconst 1, 1) := by decide +kernel
theorem dX1_order_53 : decode cX1_order 53 = .ok (.iadd, 1) := by decide +kernel
theorem dX1_order_54 : decode cX1_order 54 = .ok (.istore_n 3, 1) := by decide +kernel
theorem dX1_order_55 : decode cX1_order 55 = .ok (.goto (-53), 3) := by decide +kernel
theorem dX1_order_58 : decode cX1_order 58 = .ok (.iload_n 3, 1) := by decide +kernel
theorem dX1_order_59 : decode cX1_order 59 = .ok (.aload_n 0, 1) := by decide +kernel
theorem dX1_order_60 : decode cX1_order 60 = .ok (.getfield 16, 3) := by decide +kernel
theorem dX1_order_63 : decode cX1_order 63 = .ok (.iload_n 1, 1) := by decide +kernel
theorem dX1_order_64 : decode cX1_order 64 = .ok (.iaload, 1) := by decide +kernel
theorem dX1_order_65 : decode cX1_order 65 = .ok (.if_icmp .ge 19, 3) := by decide +kernel
theorem dX1_order_68 : decode cX1_order 68 = .ok (.aload_n 0, 1) := by decide +kernel
theorem dX1_order_69 : decode cX1_order 69 = .ok (.getfield 7, 3) := by decide +kernel
theorem dX1_order_72 : decode cX1_order 72 = .ok (.aload_n 0, 1) := by decide +kernel
theorem dX1_order_73 : decode cX1_order 73 = .ok (.getfield 13, 3) := by decide +kernel
theorem dX1_order_76 : decode cX1_order 76 = .ok (.iload_n 1, 1) := by decide +kernel
theorem dX1_order_77 : decode cX1_order 77 = .ok (.iaload, 1) := by decide +kernel
theorem dX1_order_78 : decode cX1_order 78 = .ok (.iload_n 3, 1) := by decide +kernel
theorem dX1_order_79 : decode cX1_order 79 = .ok (.iadd, 1) := by decide +kernel
theorem dX1_order_80 : decode cX1_order 80 = .ok (.iaload, 1) := by decide +kernel
theorem dX1_order_81 : decode cX1_order 81 = .ok (.goto 4, 3) := by decide +kernel
theorem dX1_order_84 : decode cX1_order 84 = .ok (.iconst (-1), 1) := by decide +kernel
theorem dX1_order_85 : decode cX1_order 85 = .ok (.istore 4, 2) := by decide +kernel
theorem dX1_order_87 : decode cX1_order 87 = .ok (.iload_n 3, 1) := by decide +kernel
theorem dX1_order_88 : decode cX1_order 88 = .ok (.aload_n 0, 1) := by decide +kernel
theorem dX1_order_89 : decode cX1_order 89 = .ok (.getfield 16, 3) := by decide +kernel
theorem dX1_order_92 : decode cX1_order 92 = .ok (.iload_n 2, 1) := by decide +kernel
theorem dX1_order_93 : decode cX1_order 93 = .ok (.iaload, 1) := by decide +kernel
theorem dX1_order_94 : decode cX1_order 94 = .ok (.if_icmp .ge 19, 3) := by decide +kernel
theorem dX1_order_97 : decode cX1_order 97 = .ok (.aload_n 0, 1) := by decide +kernel
theorem dX1_order_98 : decode cX1_order 98 = .ok (.getfield 7, 3) := by decide +kernel
theorem dX1_order_101 : decode cX1_order 101 = .ok (.aload_n 0, 1) := by decide +kernel
theorem dX1_order_102 : decode cX1_order 102 = .ok (.getfield 13, 3) := by decide +kernel
theorem dX1_order_105 : decode cX1_order 105 = .ok (.iload_n 2, 1) := by decide +kernel
theorem dX1_order_106 : decode cX1_order 106 = .ok (.iaload, 1) := by decide +kernel
theorem dX1_order_107 : decode cX1_order 107 = .ok (.iload_n 3, 1) := by decide +kernel
theorem dX1_order_108 : decode cX1_order 108 = .ok (.iadd, 1) := by decide +kernel
theorem dX1_order_109 : decode cX1_order 109 = .ok (.iaload, 1) := by decide +kernel
theorem dX1_order_110 : decode cX1_order 110 = .ok (.goto 4, 3) := by decide +kernel
theorem dX1_order_113 : decode cX1_order 113 = .ok (.iconst (-1), 1) := by decide +kernel
theorem dX1_order_114 : decode cX1_order 114 = .ok (.istore 5, 2) := by decide +kernel
theorem dX1_order_116 : decode cX1_order 116 = .ok (.iload 4, 2) := by decide +kernel
theorem dX1_order_118 : decode cX1_order 118 = .ok (.iload 5, 2) := by decide +kernel
theorem dX1_order_120 : decode cX1_order 120 = .ok (.if_icmp .ge 7, 3) := by decide +kernel
theorem dX1_order_123 : decode cX1_order 123 = .ok (.iconst (-1), 1) := by decide +kernel
theorem dX1_order_124 : decode cX1_order 124 = .ok (.goto 15, 3) := by decide +kernel
theorem dX1_order_127 : decode cX1_order 127 = .ok (.iload 4, 2) := by decide +kernel
theorem dX1_order_129 : decode cX1_order 129 = .ok (.iload 5, 2) := by decide +kernel
theorem dX1_order_131 : decode cX1_order 131 = .ok (.if_icmp .le 7, 3) := by decide +kernel
theorem dX1_order_134 : decode cX1_order 134 = .ok (.iconst 1, 1) := by decide +kernel
theorem dX1_order_135 : decode cX1_order 135 = .ok (.goto 4, 3) := by decide +kernel
theorem dX1_order_138 : decode cX1_order 138 = .ok (.iconst 0, 1) := by decide +kernel
theorem dX1_order_139 : decode cX1_order 139 = .ok (.ireturn, 1) := by decide +kernel
set_option maxRecDepth 20000 in
theorem ggX1_compare_X1_isRow : GoodIn wsX1_compare wsX1_isRow := goodIn_r _ [5, 6, 14, 15, 16, 17, 18, 19, 20, 21, 22] (by decide +kernel) (by decide +kernel)
set_option maxRecDepth 20000 in
theorem gX1_compare_X1_isRow : GoodIn wsX1_compare (wsV RX1 49 RX1 yX1_isRow wsX1_isRow) := goodIn_app (goodIn_of _ (by decide +kernel)) ggX1_compare_X1_isRow
set_option maxRecDepth 20000 in
theorem ggX1_compare_X1_order : GoodIn wsX1_compare wsX1_order := goodIn_r _ [10, 11, 12, 13, 14, 15, 16, 17, 18, 19, 20, 21, 22] (by decide +kernel) (by decide +kernel)
set_option maxRecDepth 20000 in
theorem gX1_compare_X1_order : GoodIn wsX1_compare (wsV RX1 53 RX1 yX1_order wsX1_order) := goodIn_app (goodIn_of _ (by decide +kernel)) ggX1_compare_X1_order
theorem dX1_compare_0 : decode cX1_compare 0 = .ok (.aload_n 0, 1) := by decide +kernel
theorem dX1_compare_1 : decode cX1_compare 1 = .ok (.iload_n 1, 1) := by decide +kernel
theorem dX1_compare_2 : decode cX1_compare 2 = .ok (.invokevirtual 49, 3) := by decide +kernel
theorem dX1_compare_5 : decode cX1_compare 5 = .ok (.ifCond .eq 20, 3) := by decide +kernel
theorem dX1_compare_8 : decode cX1_compare 8 = .ok (.aload_n 0, 1) := by decide +kernel
theorem dX1_compare_9 : decode cX1_compare 9 = .ok (.iload_n 2, 1) := by decide +kernel
theorem dX1_compare_10 : decode cX1_compare 10 = .ok (.invokevirtual 49, 3) := by decide +kernel
theorem dX1_compare_13 : decode cX1_compare 13 = .ok (.ifCond .eq 12, 3) := by decide +kernel
theorem dX1_compare_16 : decode cX1_compare 16 = .ok (.aload_n 0, 1) := by decide +kernel
theorem dX1_compare_17 : decode cX1_compare 17 = .ok (.iload_n 1, 1) := by decide +kernel
theorem dX1_compare_18 : decode cX1_compare 18 = .ok (.iload_n 2, 1) := by decide +kernel
theorem dX1_compare_19 : decode cX1_compare 19 = .ok (.invokevirtual 53, 3) := by decide +kernel
theorem dX1_compare_22 : decode cX1_compare 22 = .ok (.goto 5, 3) := by decide +kernel
theorem dX1_compare_25 : decode cX1_compare 25 = .ok (.bipush (-2), 2) := by decide +kernel
theorem dX1_compare_27 : decode cX1_compare 27 = .ok (.ireturn, 1) := by decide +kernel
theorem dX1_isIn_0 : decode cX1_isIn 0 = .ok (.iload_n 0, 1) := by decide +kernel
theorem dX1_isIn_1 : decode cX1_isIn 1 = .ok (.iload_n 1, 1) := by decide +kernel
theorem dX1_isIn_2 : decode cX1_isIn 2 = .ok (.if_icmp .lt 12, 3) := by decide +kernel
theorem dX1_isIn_5 : decode cX1_isIn 5 = .ok (.iload_n 0, 1) := by decide +kernel
theorem dX1_isIn_6 : decode cX1_isIn 6 = .ok (.iload_n 2, 1) := by decide +kernel
theorem dX1_isIn_7 : decode cX1_isIn 7 = .ok (.if_icmp .gt 7, 3) := by decide +kernel
theorem dX1_isIn_10 : decode cX1_isIn 10 = .ok (.iconst 1, 1) := by decide +kernel
theorem dX1_isIn_11 : decode cX1_isIn 11 = .ok (.goto 4, 3) := by decide +kernel
theorem dX1_isIn_14 : decode cX1_isIn 14 = .ok (.iconst 0, 1) := by decide +kernel
theorem dX1_isIn_15 : decode cX1_isIn 15 = .ok (.ireturn, 1) := by decide +kernel
set_option maxRecDepth 20000 in
theorem ggX1_isStart_X1_isIn : GoodIn wsX1_isStart wsX1_isIn := goodIn_r _ [11] (by decide +kernel) (by decide +kernel)
set_option maxRecDepth 20000 in
theorem gX1_isStart_X1_isIn : GoodIn wsX1_isStart (va_wsS RX1 57 yX1_isIn wsX1_isIn) := goodIn_app (goodIn_of _ (by decide +kernel)) ggX1_isStart_X1_isIn
theorem dX1_isStart_0 : decode cX1_isStart 0 = .ok (.iload_n 0, 1) := by decide +kernel
theorem dX1_isStart_1 : decode cX1_isStart 1 = .ok (.bipush 65, 2) := by decide +kernel
theorem dX1_isStart_3 : decode cX1_isStart 3 = .ok (.bipush 90, 2) := by decide +kernel
theorem dX1_isStart_5 : decode cX1_isStart 5 = .ok (.invokestatic 57, 3) := by decide +kernel
theorem dX1_isStart_8 : decode cX1_isStart 8 = .ok (.ifCond .ne 91, 3) := by decide +kernel
theorem dX1_isStart_11 : decode cX1_isStart 11 = .ok (.iload_n 0, 1) := by decide +kernel
theorem dX1_isStart_12 : decode cX1_isStart 12 = .ok (.bipush 97, 2) := by decide +kernel
theorem dX1_isStart_14 : decode cX1_isStart 14 = .ok (.bipush 122, 2) := by decide +kernel
theorem dX1_isStart_16 : decode cX1_isStart 16 = .ok (.invokestatic 57, 3) := by decide +kernel
theorem dX1_isStart_19 : decode cX1_isStart 19 = .ok (.ifCond .ne 80, 3) := by decide +kernel
theorem dX1_isStart_22 : decode cX1_isStart 22 = .ok (.iload_n 0, 1) := by decide +kernel
theorem dX1_isStart_23 : decode cX1_isStart 23 = .ok (.bipush 58, 2) := by decide +kernel
theorem dX1_isStart_25 : decode cX1_isStart 25 = .ok (.if_icmp .eq 74, 3) := by decide +kernel
theorem dX1_isStart_28 : decode cX1_isStart 28 = .ok (.iload_n 0, 1) := by decide +kernel
theorem dX1_isStart_29 : decode cX1_isStart 29 = .ok (.bipush 95, 2) := by decide +kernel
theorem dX1_isStart_31 : decode cX1_isStart 31 = .ok (.if_icmp .eq 68, 3) := by decide +kernel
theorem dX1_isStart_34 : decode cX1_isStart 34 = .ok (.iload_n 0, 1) := by decide +kernel
theorem dX1_isStart_35 : decode cX1_isStart 35 = .ok (.sipush 192, 3) := by decide +kernel
theorem dX1_isStart_38 : decode cX1_isStart 38 = .ok (.sipush 214, 3) := by decide +kernel
theorem dX1_isStart_41 : decode cX1_isStart 41 = .ok (.invokestatic 57, 3) := by decide +kernel
theorem dX1_isStart_44 : decode cX1_isStart 44 = .ok (.ifCond .ne 55, 3) := by decide +kernel
theorem dX1_isStart_47 : decode cX1_isStart 47 = .ok (.iload_n 0, 1) := by decide +kernel
theorem dX1_isStart_48 : decode cX1_isStart 48 = .ok (.sipush 216, 3) := by decide +kernel
theorem dX1_isStart_51 : decode cX1_isStart 51 = .ok (.sipush 246, 3) := by decide +kernel
theorem dX1_isStart_54 : decode cX1_isStart 54 = .ok (.invokestatic 57, 3) := by decide +kernel
theorem dX1_isStart_57 : decode cX1_isStart 57 = .ok (.ifCond .ne 42, 3) := by decide +kernel
theorem dX1_isStart_60 : decode cX1_isStart 60 = .ok (.iload_n 0, 1) := by decide +kernel
theorem dX1_isStart_61 : decode cX1_isStart 61 = .ok (.sipush 248, 3) := by decide +kernel
theorem dX1_isStart_64 : decode cX1_isStart 64 = .ok (.sipush 767, 3) := by decide +kernel
theorem dX1_isStart_67 : decode cX1_isStart 67 = .ok (.invokestatic 57, 3) := by decide +kernel
theorem dX1_isStart_70 : decode cX1_isStart 70 = .ok (.ifCond .ne 29, 3) := by decide +kernel
theorem dX1_isStart_73 : decode cX1_isStart 73 = .ok (.iload_n 0, 1) := by decide +kernel
theorem dX1_isStart_74 : decode cX1_isStart 74 = .ok (.sipush 880, 3) := by decide +kernel
theorem dX1_isStart_77 : decode cX1_isStart 77 = .ok (.sipush 893, 3) := by decide +kernel
theorem dX1_isStart_80 : decode cX1_isStart 80 = .ok (.invokestatic 57, 3) := by decide +kernel
theorem dX1_isStart_83 : decode cX1_isStart 83 = .ok (.ifCond .ne 16, 3) := by decide +kernel
theorem dX1_isStart_86 : decode cX1_isStart 86 = .ok (.iload_n 0, 1) := by decide +kernel
theorem dX1_isStart_87 : decode cX1_isStart 87 = .ok (.sipush 895, 3) := by decide +kernel
theorem dX1_isStart_90 : decode cX1_isStart 90 = .ok (.sipush 8191, 3) := by decide +kernel
theorem dX1_isStart_93 : decode cX1_isStart 93 = .ok (.invokestatic 57, 3) := by decide +kernel
theorem dX1_isStart_96 : decode cX1_isStart 96 = .ok (.ifCond .eq 7, 3) := by decide +kernel
theorem dX1_isStart_99 : decode cX1_isStart 99 = .ok (.iconst 1, 1) := by decide +kernel
theorem dX1_isStart_100 : decode cX1_isStart 100 = .ok (.goto 4, 3) := by decide +kernel
theorem dX1_isStart_103 : decode cX1_isStart 103 = .ok (.iconst 0, 1) := by decide +kernel
theorem dX1_isStart_104 : decode cX1_isStart 104 = .ok (.istore_n 1, 1) := by decide +kernel
theorem dX1_isStart_105 : decode cX1_isStart 105 = .ok (.iload_n 1, 1) := by decide +kernel
theorem dX1_isStart_106 : decode cX1_isStart 106 = .ok (.ifCond .ne 88, 3) := by decide +kernel
theorem dX1_isStart_109 : decode cX1_isStart 109 = .ok (.iload_n 0, 1) := by decide +kernel
theorem dX1_isStart_110 : decode cX1_isStart 110 = .ok (.sipush 8204, 3) := by decide +kernel
theorem dX1_isStart_113 : decode cX1_isStart 113 = .ok (.if_icmp .eq 81, 3) := by decide +kernel
theorem dX1_isStart_116 : decode cX1_isStart 116 = .ok (.iload_n 0, 1) := by decide +kernel
theorem dX1_isStart_117 : decode cX1_isStart 117 = .ok (.sipush 8205, 3) := by decide +kernel
theorem dX1_isStart_120 : decode cX1_isStart 120 = .ok (.if_icmp .eq 74, 3) := by decide +kernel
theorem dX1_isStart_123 : decode cX1_isStart 123 = .ok (.iload_n 0, 1) := by decide +kernel
theorem dX1_isStart_124 : decode cX1_isStart 124 = .ok (.sipush 8304, 3) := by decide +kernel
theorem dX1_isStart_127 : decode cX1_isStart 127 = .ok (.sipush 8591, 3) := by decide +kernel
theorem dX1_isStart_130 : decode cX1_isStart 130 = .ok (.invokestatic 57, 3) := by decide +kernel
theorem dX1_isStart_133 : decode cX1_isStart 133 = .ok (.ifCond .ne 61, 3) := by decide +kernel
theorem dX1_isStart_136 : decode cX1_isStart 136 = .ok (.iload_n 0, 1) := by decide +kernel
theorem dX1_isStart_137 : decode cX1_isStart 137 = .ok (.sipush 11264, 3) := by decide +kernel
theorem dX1_isStart_140 : decode cX1_isStart 140 = .ok (.sipush 12271, 3) := by decide +kernel
theorem dX1_isStart_143 : decode cX1_isStart 143 = .ok (.invokestatic 57, 3) := by decide +kernel
theorem dX1_isStart_146 : decode cX1_isStart 146 = .ok (.ifCond .ne 48, 3) := by decide +kernel
theorem dX1_isStart_149 : decode cX1_isStart 149 = .ok (.iload_n 0, 1) := by decide +kernel
theorem dX1_isStart_150 : decode cX1_isStart 150 = .ok (.sipush 12289, 3) := by decide +kernel
theorem dX1_isStart_153 : decode cX1_isStart 153 = .ok (.ldc 61, 2) := by decide +kernel
theorem dX1_isStart_155 : decode cX1_isStart 155 = .ok (.invokestatic 57, 3) := by decide +kernel
theorem dX1_isStart_158 : decode cX1_isStart 158 = .ok (.ifCond .ne 36, 3) := by decide +kernel
theorem dX1_isStart_161 : decode cX1_isStart 161 = .ok (.iload_n 0, 1) := by decide +kernel
theorem dX1_isStart_162 : decode cX1_isStart 162 = .ok (.ldc 62, 2) := by decide +kernel
theorem dX1_isStart_164 : decode cX1_isStart 164 = .ok (.ldc 63, 2) := by decide +kernel
theorem dX1_isStart_166 : decode cX1_isStart 166 = .ok (.invokestatic 57, 3) := by decide +kernel
theorem dX1_isStart_169 : decode cX1_isStart 169 = .ok (.ifCond .ne 25, 3) := by decide +kernel
theorem dX1_isStart_172 : decode cX1_isStart 172 = .ok (.iload_n 0, 1) := by decide +kernel
theorem dX1_isStart_173 : decode cX1_isStart 173 = .ok (.ldc 64, 2) := by decide +kernel
theorem dX1_isStart_175 : decode cX1_isStart 175 = .ok (.ldc 65, 2) := by decide +kernel
theorem dX1_isStart_177 : decode cX1_isStart 177 = .ok (.invokestatic 57, 3) := by decide +kernel
theorem dX1_isStart_180 : decode cX1_isStart 180 = .ok (.ifCond .ne 14, 3) := by decide +kernel
theorem dX1_isStart_183 : decode cX1_isStart 183 = .ok (.iload_n 0, 1) := by decide +kernel
theorem dX1_isStart_184 : decode cX1_isStart 184 = .ok (.ldc 66, 2) := by decide +kernel
theorem dX1_isStart_186 : decode cX1_isStart 186 = .ok (.ldc 67, 2) := by decide +kernel
theorem dX1_isStart_188 : decode cX1_isStart 188 = .ok (.invokestatic 57, 3) := by decide +kernel
theorem dX1_isStart_191 : decode cX1_isStart 191 = .ok (.ifCond .eq 7, 3) := by decide +kernel
theorem dX1_isStart_194 : decode cX1_isStart 194 = .ok (.iconst 1, 1) := by decide +kernel
theorem dX1_isStart_195 : decode cX1_isStart 195 = .ok (.goto 4, 3) := by decide +kernel
theorem dX1_isStart_198 : decode cX1_isStart 198 = .ok (.iconst 0, 1) := by decide +kernel
theorem dX1_isStart_199 : decode cX1_isStart 199 = .ok (.ireturn, 1) := by decide +kernel
set_option maxRecDepth 20000 in
theorem ggX1_colon_X1_isRow : GoodIn wsX1_colon wsX1_isRow := goodIn_r _ [8, 9, 23, 24, 25, 26, 27, 28, 29, 30, 31] (by decide +kernel) (by decide +kernel)
set_option maxRecDepth 20000 in
theorem gX1_colon_X1_isRow : GoodIn wsX1_colon (wsV RX1 49 RX1 yX1_isRow wsX1_isRow) := goodIn_app (goodIn_of _ (by decide +kernel)) ggX1_colon_X1_isRow
set_option maxRecDepth 20000 in
theorem ggX1_colon_X1_isStart : GoodIn wsX1_colon wsX1_isStart := goodIn_r _ [12, 13, 14, 15, 16, 17, 18, 19, 20, 21, 7, 22] (by decide +kernel) (by decide +kernel)
set_option maxRecDepth 20000 in
theorem gX1_colon_X1_isStart : GoodIn wsX1_colon (va_wsS RX1 68 yX1_isStart wsX1_isStart) := goodIn_app (goodIn_of _ (by decide +kernel)) ggX1_colon_X1_isStart
theorem dX1_colon_0 : decode cX1_colon 0 = .ok (.aload_n 0, 1) := by decide +kernel
theorem dX1_colon_1 : decode cX1_colon 1 = .ok (.iload_n 1, 1) := by decide +kernel
theorem dX1_colon_2 : decode cX1_colon 2 = .ok (.invokevirtual 49, 3) := by decide +kernel
theorem dX1_colon_5 : decode cX1_colon 5 = .ok (.ifCond .ne 6, 3) := by decide +kernel
theorem dX1_colon_8 : decode cX1_colon 8 = .ok (.bipush (-2), 2) := by decide +kernel
theorem dX1_colon_10 : decode cX1_colon 10 = .ok (.ireturn, 1) := by decide +kernel
theorem dX1_colon_11 : decode cX1_colon 11 = .ok (.iconst 0, 1) := by decide +kernel
theorem dX1_colon_12 : decode cX1_colon 12 = .ok (.istore_n 2, 1) := by decide +kernel
theorem dX1_colon_13 : decode cX1_colon 13 = .ok (.iconst 0, 1) := by decide +kernel
theorem dX1_colon_14 : decode cX1_colon 14 = .ok (.istore_n 3, 1) := by decide +kernel
theorem dX1_colon_15 : decode cX1_colon 15 = .ok (.iconst 0, 1) := by decide +kernel
theorem dX1_colon_16 : decode cX1_colon 16 = .ok (.istore 4, 2) := by decide +kernel
theorem dX1_colon_18 : decode cX1_colon 18 = .ok (.iload 4, 2) := by decide +kernel
theorem dX1_colon_20 : decode cX1_colon 20 = .ok (.aload_n 0, 1) := by decide +kernel
theorem dX1_colon_21 : decode cX1_colon 21 = .ok (.getfield 16, 3) := by decide +kernel
theorem dX1_colon_24 : decode cX1_colon 24 = .ok (.iload_n 1, 1) := by decide +kernel
theorem dX1_colon_25 : decode cX1_colon 25 = .ok (.iaload, 1) := by decide +kernel
theorem dX1_colon_26 : decode cX1_colon 26 = .ok (.if_icmp .ge 60, 3) := by decide +kernel
theorem dX1_colon_29 : decode cX1_colon 29 = .ok (.aload_n 0, 1) := by decide +kernel
theorem dX1_colon_30 : decode cX1_colon 30 = .ok (.getfield 7, 3) := by decide +kernel
theorem dX1_colon_33 : decode cX1_colon 33 = .ok (.aload_n 0, 1) := by decide +kernel
theorem dX1_colon_34 : decode cX1_colon 34 = .ok (.getfield 13, 3) := by decide +kernel
theorem dX1_colon_37 : decode cX1_colon 37 = .ok (.iload_n 1, 1) := by decide +kernel
theorem dX1_colon_38 : decode cX1_colon 38 = .ok (.iaload, 1) := by decide +kernel
theorem dX1_colon_39 : decode cX1_colon 39 = .ok (.iload 4, 2) := by decide +kernel
theorem dX1_colon_41 : decode cX1_colon 41 = .ok (.iadd, 1) := by decide +kernel
theorem dX1_colon_42 : decode cX1_colon 42 = .ok (.iaload, 1) := by decide +kernel
theorem dX1_colon_43 : decode cX1_colon 43 = .ok (.bipush 58, 2) := by decide +kernel
theorem dX1_colon_45 : decode cX1_colon 45 = .ok (.if_icmp .ne 7, 3) := by decide +kernel
theorem dX1_colon_48 : decode cX1_colon 48 = .ok (.iconst 1, 1) := by decide +kernel
theorem dX1_colon_49 : decode cX1_colon 49 = .ok (.goto 4, 3) := by decide +kernel
theorem dX1_colon_52 : decode cX1_colon 52 = .ok (.iconst 0, 1) := by decide +kernel
theorem dX1_colon_53 : decode cX1_colon 53 = .ok (.istore 5, 2) := by decide +kernel
theorem dX1_colon_55 : decode cX1_colon 55 = .ok (.iload 5, 2) := by decide +kernel
theorem dX1_colon_57 : decode cX1_colon 57 = .ok (.ifCond .eq 9, 3) := by decide +kernel
theorem dX1_colon_60 : decode cX1_colon 60 = .ok (.iload_n 2, 1) := by decide +kernel
theorem dX1_colon_61 : decode cX1_colon 61 = .ok (.iconst 1, 1) := by decide +kernel
theorem dX1_colon_62 : decode cX1_colon 62 = .ok (.iadd, 1) := by decide +kernel
theorem dX1_colon_63 : decode cX1_colon 63 = .ok (.goto 4, 3) := by decide +kernel
theorem dX1_colon_66 : decode cX1_colon 66 = .ok (.iload_n 2, 1) := by decide +kernel
theorem dX1_colon_67 : decode cX1_colon 67 = .ok (.istore_n 2, 1) := by decide +kernel
theorem dX1_colon_68 : decode cX1_colon 68 = .ok (.iload 5, 2) := by decide +kernel
theorem dX1_colon_70 : decode cX1_colon 70 = .ok (.ifCond .eq 8, 3) := by decide +kernel
theorem dX1_colon_73 : decode cX1_colon 73 = .ok (.iload 4, 2) := by decide +kernel
theorem dX1_colon_75 : decode cX1_colon 75 = .ok (.goto 4, 3) := by decide +kernel
theorem dX1_colon_78 : decode cX1_colon 78 = .ok (.iload_n 3, 1) := by decide +kernel
theorem dX1_colon_79 : decode cX1_colon 79 = .ok (.istore_n 3, 1) := by decide +kernel
theorem dX1_colon_80 : decode cX1_colon 80 = .ok (.iinc 4 1, 3) := by decide +kernel
theorem dX1_colon_83 : decode cX1_colon 83 = .ok (.goto (-65), 3) := by decide +kernel
theorem dX1_colon_86 : decode cX1_colon 86 = .ok (.iload_n 2, 1) := by decide +kernel
theorem dX1_colon_87 : decode cX1_colon 87 = .ok (.ifCond .ne 5, 3) := by decide +kernel
theorem dX1_colon_90 : decode cX1_colon 90 = .ok (.iconst 0, 1) := by decide +kernel
theorem dX1_colon_91 : decode cX1_colon 91 = .ok (.ireturn, 1) := by decide +kernel
theorem dX1_colon_92 : decode cX1_colon 92 = .ok (.iload_n 2, 1) := by decide +kernel
theorem dX1_colon_93 : decode cX1_colon 93 = .ok (.iconst 1, 1) := by decide +kernel
theorem dX1_colon_94 : decode cX1_colon 94 = .ok (.if_icmp .ne 44, 3) := by decide +kernel
theorem dX1_colon_97 : decode cX1_colon 97 = .ok (.iload_n 3, 1) := by decide +kernel
theorem dX1_colon_98 : decode cX1_colon 98 = .ok (.ifCond .le 40, 3) := by decide +kernel
theorem dX1_colon_101 : decode cX1_colon 101 = .ok (.iload_n 3, 1) := by decide +kernel
theorem dX1_colon_102 : decode cX1_colon 102 = .ok (.iconst 1, 1) := by decide +kernel
theorem dX1_colon_103 : decode cX1_colon 103 = .ok (.iadd, 1) := by decide +kernel
theorem dX1_colon_104 : decode cX1_colon 104 = .ok (.aload_n 0, 1) := by decide +kernel
theorem dX1_colon_105 : decode cX1_colon 105 = .ok (.getfield 16, 3) := by decide +kernel
theorem dX1_colon_108 : decode cX1_colon 108 = .ok (.iload_n 1, 1) := by decide +kernel
theorem dX1_colon_109 : decode cX1_colon 109 = .ok (.iaload, 1) := by decide +kernel
theorem dX1_colon_110 : decode cX1_colon 110 = .ok (.if_icmp .ge 28, 3) := by decide +kernel
theorem dX1_colon_113 : decode cX1_colon 113 = .ok (.aload_n 0, 1) := by decide +kernel
theorem dX1_colon_114 : decode cX1_colon 114 = .ok (.getfield 7, 3) := by decide +kernel
theorem dX1_colon_117 : decode cX1_colon 117 = .ok (.aload_n 0, 1) := by decide +kernel
theorem dX1_colon_118 : decode cX1_colon 118 = .ok (.getfield 13, 3) := by decide +kernel
theorem dX1_colon_121 : decode cX1_colon 121 = .ok (.iload_n 1, 1) := by decide +kernel
theorem dX1_colon_122 : decode cX1_colon 122 = .ok (.iaload, 1) := by decide +kernel
theorem dX1_colon_123 : decode cX1_colon 123 = .ok (.iload_n 3, 1) := by decide +kernel
theorem dX1_colon_124 : decode cX1_colon 124 = .ok (.iadd, 1) := by decide +kernel
theorem dX1_colon_125 : decode cX1_colon 125 = .ok (.iconst 1, 1) := by decide +kernel
theorem dX1_colon_126 : decode cX1_colon 126 = .ok (.iadd, 1) := by decide +kernel
theorem dX1_colon_127 : decode cX1_colon 127 = .ok (.iaload, 1) := by decide +kernel
theorem dX1_colon_128 : decode cX1_colon 128 = .ok (.invokestatic 68, 3) := by decide +kernel
theorem dX1_colon_131 : decode cX1_colon 131 = .ok (.ifCond .eq 7, 3) := by decide +kernel
theorem dX1_colon_134 : decode cX1_colon 134 = .ok (.iconst 1, 1) := by decide +kernel
theorem dX1_colon_135 : decode cX1_colon 135 = .ok (.goto 4, 3) := by decide +kernel
theorem dX1_colon_138 : decode cX1_colon 138 = .ok (.iconst 0, 1) := by decide +kernel
theorem dX1_colon_139 : decode cX1_colon 139 = .ok (.istore 4, 2) := by decide +kernel
theorem dX1_colon_141 : decode cX1_colon 141 = .ok (.iload 4, 2) := by decide +kernel
theorem dX1_colon_143 : decode cX1_colon 143 = .ok (.ifCond .eq 7, 3) := by decide +kernel
theorem dX1_colon_146 : decode cX1_colon 146 = .ok (.iload_n 3, 1) := by decide +kernel
theorem dX1_colon_147 : decode cX1_colon 147 = .ok (.goto 4, 3) := by decide +kernel
theorem dX1_colon_150 : decode cX1_colon 150 = .ok (.iconst (-1), 1) := by decide +kernel
theorem dX1_colon_151 : decode cX1_colon 151 = .ok (.ireturn, 1) := by decide +kernel
theorem dJ9_min_7cf53_0 : decode cJ9_min_7cf53 0 = .ok (.iload_n 0, 1) := by decide +kernel
theorem dJ9_min_7cf53_1 : decode cJ9_min_7cf53 1 = .ok (.iload_n 1, 1) := by decide +kernel
theorem dJ9_min_7cf53_2 : decode cJ9_min_7cf53 2 = .ok (.if_icmp .gt 7, 3) := by decide +kernel
theorem dJ9_min_7cf53_5 : decode cJ9_min_7cf53 5 = .ok (.iload_n 0, 1) := by decide +kernel
theorem dJ9_min_7cf53_6 : decode cJ9_min_7cf53 6 = .ok (.goto 4, 3) := by decide +kernel
theorem dJ9_min_7cf53_9 : decode cJ9_min_7cf53 9 = .ok (.iload_n 1, 1) := by decide +kernel
theorem dJ9_min_7cf53_10 : decode cJ9_min_7cf53 10 = .ok (.ireturn, 1) := by decide +kernel
set_option maxRecDepth 20000 in
theorem ggL_law_X0_init : GoodIn wsL_law wsX0_init := goodIn_r _ [8, 9, 10, 11, 12, 13, 14, 15, 16, 17, 206, 207, 208, 209, 210] (by decide +kernel) (by decide +kernel)
set_option maxRecDepth 20000 in
theorem gL_law_X0_init : GoodIn wsL_law (wsX0_init) := ggL_law_X0_init
set_option maxRecDepth 20000 in
theorem ggL_law_X1_init : GoodIn wsL_law wsX1_init := goodIn_r _ [20, 21, 10, 11, 12, 22, 23, 24, 25, 26, 211, 212, 213, 214, 215, 216, 217, 218, 219] (by decide +kernel) (by decide +kernel)
set_option maxRecDepth 20000 in
theorem gL_law_X1_init : GoodIn wsL_law (wsX1_init) := ggL_law_X1_init
set_option maxRecDepth 20000 in
theorem ggL_law_X0_write : GoodIn wsL_law wsX0_write := goodIn_r _ [30, 31, 14, 13, 206, 207, 208, 209, 210] (by decide +kernel) (by decide +kernel)
set_option maxRecDepth 20000 in
theorem gL_law_X0_write : GoodIn wsL_law (wsV RL 13 RX0 yX0_write wsX0_write) := goodIn_app (goodIn_of _ (by decide +kernel)) ggL_law_X0_write
set_option maxRecDepth 20000 in
theorem ggL_law_X1_write : GoodIn wsL_law wsX1_write := goodIn_r _ [35, 36, 37, 25, 211, 212, 213, 214, 215, 216, 217, 218, 219] (by decide +kernel) (by decide +kernel)
set_option maxRecDepth 20000 in
theorem gL_law_X1_write : GoodIn wsL_law (wsV RL 17 RX1 yX1_write wsX1_write) := goodIn_app (goodIn_of _ (by decide +kernel)) ggL_law_X1_write
set_option maxRecDepth 20000 in
theorem ggL_law_X0_cut : GoodIn wsL_law wsX0_cut := goodIn_r _ [41, 14, 206, 207, 208, 209, 210] (by decide +kernel) (by decide +kernel)
set_option maxRecDepth 20000 in
theorem gL_law_X0_cut : GoodIn wsL_law (wsV RL 18 RX0 yX0_cut wsX0_cut) := goodIn_app (goodIn_of _ (by decide +kernel)) ggL_law_X0_cut
set_option maxRecDepth 20000 in
theorem ggL_law_X1_cut : GoodIn wsL_law wsX1_cut := goodIn_r _ [45, 37, 211, 212, 213, 214, 215, 216, 217, 218, 219] (by decide +kernel) (by decide +kernel)
set_option maxRecDepth 20000 in
theorem gL_law_X1_cut : GoodIn wsL_law (wsV RL 22 RX1 yX1_cut wsX1_cut) := goodIn_app (goodIn_of _ (by decide +kernel)) ggL_law_X1_cut
set_option maxRecDepth 20000 in
theorem ggL_law_X0_number : GoodIn wsL_law wsX0_number := goodIn_r _ [49, 13, 14, 50, 51, 52, 2, 53, 54, 55, 56, 57, 17, 58, 59, 60, 61, 16, 62, 63, 64, 65, 15, 66, 67, 68, 69, 70, 71, 72, 73, 74, 75, 76, 77, 206, 207, 208, 209, 210] (by decide +kernel) (by decide +kernel)
set_option maxRecDepth 20000 in
theorem gL_law_X0_number : GoodIn wsL_law (wsV RL 23 RX0 yX0_number wsX0_number) := goodIn_app (goodIn_of _ (by decide +kernel)) ggL_law_X0_number
set_option maxRecDepth 20000 in
theorem ggL_law_X1_number : GoodIn wsL_law wsX1_number := goodIn_r _ [81, 37, 82, 83, 84, 5, 85, 86, 26, 25, 87, 88, 89, 90, 91, 92, 23, 24, 22, 93, 94, 95, 96, 211, 212, 213, 214, 215, 216, 217, 218, 219] (by decide +kernel) (by decide +kernel)
set_option maxRecDepth 20000 in
theorem gL_law_X1_number : GoodIn wsL_law (wsV RL 27 RX1 yX1_number wsX1_number) := goodIn_app (goodIn_of _ (by decide +kernel)) ggL_law_X1_number
set_option maxRecDepth 20000 in
theorem ggL_law_X0_isKnown : GoodIn wsL_law wsX0_isKnown := goodIn_r _ [100, 13, 14, 54, 55, 56, 2, 57, 17, 58, 59, 60, 61, 16, 62, 63, 64, 65, 15, 206, 207, 208, 209, 210] (by decide +kernel) (by decide +kernel)
set_option maxRecDepth 20000 in
theorem gL_law_X0_isKnown : GoodIn wsL_law (wsV RL 28 RX0 yX0_isKnown wsX0_isKnown) := goodIn_app (goodIn_of _ (by decide +kernel)) ggL_law_X0_isKnown
set_option maxRecDepth 20000 in
theorem ggL_law_X1_isKnown : GoodIn wsL_law wsX1_isKnown := goodIn_r _ [104, 82, 83, 84, 5, 85, 37, 86, 26, 25, 93, 94, 95, 96, 91, 24, 22, 23, 211, 212, 213, 214, 215, 216, 217, 218, 219] (by decide +kernel) (by decide +kernel)
set_option maxRecDepth 20000 in
theorem gL_law_X1_isKnown : GoodIn wsL_law (wsV RL 32 RX1 yX1_isKnown wsX1_isKnown) := goodIn_app (goodIn_of _ (by decide +kernel)) ggL_law_X1_isKnown
set_option maxRecDepth 20000 in
theorem ggL_law_X0_take : GoodIn wsL_law wsX0_take := goodIn_r _ [108, 14, 15, 16, 13, 74, 75, 76, 77, 109, 110, 111, 2, 112, 17, 58, 59, 60, 61, 206, 207, 208, 209, 210] (by decide +kernel) (by decide +kernel)
set_option maxRecDepth 20000 in
theorem gL_law_X0_take : GoodIn wsL_law (wsV RL 33 RX0 yX0_take wsX0_take) := goodIn_app (goodIn_of _ (by decide +kernel)) ggL_law_X0_take
set_option maxRecDepth 20000 in
theorem ggL_law_X1_take : GoodIn wsL_law wsX1_take := goodIn_r _ [116, 37, 24, 25, 22, 23, 117, 118, 119, 5, 120, 91, 211, 212, 213, 214, 215, 216, 217, 218, 219] (by decide +kernel) (by decide +kernel)
set_option maxRecDepth 20000 in
theorem gL_law_X1_take : GoodIn wsL_law (wsV RL 36 RX1 yX1_take wsX1_take) := goodIn_app (goodIn_of _ (by decide +kernel)) ggL_law_X1_take
set_option maxRecDepth 20000 in
theorem ggL_law_X0_rows : GoodIn wsL_law wsX0_rows := goodIn_r _ [124, 17, 206, 207, 208, 209, 210] (by decide +kernel) (by decide +kernel)
set_option maxRecDepth 20000 in
theorem gL_law_X0_rows : GoodIn wsL_law (wsV RL 37 RX0 yX0_rows wsX0_rows) := goodIn_app (goodIn_of _ (by decide +kernel)) ggL_law_X0_rows
set_option maxRecDepth 20000 in
theorem ggL_law_X1_rows : GoodIn wsL_law wsX1_rows := goodIn_r _ [128, 91, 211, 212, 213, 214, 215, 216, 217, 218, 219] (by decide +kernel) (by decide +kernel)
set_option maxRecDepth 20000 in
theorem gL_law_X1_rows : GoodIn wsL_law (wsV RL 40 RX1 yX1_rows wsX1_rows) := goodIn_app (goodIn_of _ (by decide +kernel)) ggL_law_X1_rows
set_option maxRecDepth 20000 in
theorem ggL_law_X0_length : GoodIn wsL_law wsX0_length := goodIn_r _ [132, 109, 110, 111, 2, 112, 17, 58, 59, 60, 61, 16, 206, 207, 208, 209, 210] (by decide +kernel) (by decide +kernel)
set_option maxRecDepth 20000 in
theorem gL_law_X0_length : GoodIn wsL_law (wsV RL 41 RX0 yX0_length wsX0_length) := goodIn_app (goodIn_of _ (by decide +kernel)) ggL_law_X0_length
set_option maxRecDepth 20000 in
theorem ggL_law_X1_length : GoodIn wsL_law wsX1_length := goodIn_r _ [136, 24, 117, 118, 119, 5, 120, 91, 211, 212, 213, 214, 215, 216, 217, 218, 219] (by decide +kernel) (by decide +kernel)
set_option maxRecDepth 20000 in
theorem gL_law_X1_length : GoodIn wsL_law (wsV RL 44 RX1 yX1_length wsX1_length) := goodIn_app (goodIn_of _ (by decide +kernel)) ggL_law_X1_length
set_option maxRecDepth 20000 in
theorem ggL_law_X0_sign : GoodIn wsL_law wsX0_sign := goodIn_r _ [140, 15, 16, 109, 110, 111, 2, 112, 17, 58, 59, 60, 61, 206, 207, 208, 209, 210] (by decide +kernel) (by decide +kernel)
set_option maxRecDepth 20000 in
theorem gL_law_X0_sign : GoodIn wsL_law (wsV RL 45 RX0 yX0_sign wsX0_sign) := goodIn_app (goodIn_of _ (by decide +kernel)) ggL_law_X0_sign
set_option maxRecDepth 20000 in
theorem ggL_law_X1_sign : GoodIn wsL_law wsX1_sign := goodIn_r _ [144, 24, 22, 23, 117, 118, 119, 5, 120, 91, 211, 212, 213, 214, 215, 216, 217, 218, 219] (by decide +kernel) (by decide +kernel)
set_option maxRecDepth 20000 in
theorem gL_law_X1_sign : GoodIn wsL_law (wsV RL 48 RX1 yX1_sign wsX1_sign) := goodIn_app (goodIn_of _ (by decide +kernel)) ggL_law_X1_sign
set_option maxRecDepth 20000 in
theorem ggL_law_X0_compare : GoodIn wsL_law wsX0_compare := goodIn_r _ [148, 109, 110, 111, 2, 112, 17, 149, 150, 151, 152, 153, 154, 155, 156, 15, 16, 58, 59, 60, 61, 206, 207, 208, 209, 210] (by decide +kernel) (by decide +kernel)
set_option maxRecDepth 20000 in
theorem gL_law_X0_compare : GoodIn wsL_law (wsV RL 49 RX0 yX0_compare wsX0_compare) := goodIn_app (goodIn_of _ (by decide +kernel)) ggL_law_X0_compare
set_option maxRecDepth 20000 in
theorem ggL_law_X1_compare : GoodIn wsL_law wsX1_compare := goodIn_r _ [160, 117, 118, 119, 5, 120, 91, 161, 162, 163, 164, 24, 22, 23, 211, 212, 213, 214, 215, 216, 217, 218, 219] (by decide +kernel) (by decide +kernel)
set_option maxRecDepth 20000 in
theorem gL_law_X1_compare : GoodIn wsL_law (wsV RL 52 RX1 yX1_compare wsX1_compare) := goodIn_app (goodIn_of _ (by decide +kernel)) ggL_law_X1_compare
set_option maxRecDepth 20000 in
theorem ggL_law_X0_colon : GoodIn wsL_law wsX0_colon := goodIn_r _ [168, 16, 15, 109, 110, 111, 2, 112, 17, 169, 170, 171, 172, 173, 174, 175, 176, 206, 207, 208, 209, 210] (by decide +kernel) (by decide +kernel)
set_option maxRecDepth 20000 in
theorem gL_law_X0_colon : GoodIn wsL_law (wsV RL 53 RX0 yX0_colon wsX0_colon) := goodIn_app (goodIn_of _ (by decide +kernel)) ggL_law_X0_colon
set_option maxRecDepth 20000 in
theorem ggL_law_X1_colon : GoodIn wsL_law wsX1_colon := goodIn_r _ [180, 24, 22, 23, 117, 118, 119, 5, 120, 91, 181, 182, 183, 184, 185, 186, 187, 188, 189, 190, 191, 192, 193, 211, 212, 213, 214, 215, 216, 217, 218, 219] (by decide +kernel) (by decide +kernel)
set_option maxRecDepth 20000 in
theorem gL_law_X1_colon : GoodIn wsL_law (wsV RL 56 RX1 yX1_colon wsX1_colon) := goodIn_app (goodIn_of _ (by decide +kernel)) ggL_law_X1_colon
set_option maxRecDepth 20000 in
theorem ggL_law_X0_part : GoodIn wsL_law wsX0_part := goodIn_r _ [197, 15, 16, 109, 110, 111, 2, 112, 17, 58, 59, 60, 61, 50, 51, 52, 53, 54, 55, 56, 57, 62, 63, 64, 65, 66, 67, 68, 69, 70, 71, 72, 73, 74, 75, 76, 77, 206, 207, 208, 209, 210] (by decide +kernel) (by decide +kernel)
set_option maxRecDepth 20000 in
theorem gL_law_X0_part : GoodIn wsL_law (wsV RL 57 RX0 yX0_part wsX0_part) := goodIn_app (goodIn_of _ (by decide +kernel)) ggL_law_X0_part
set_option maxRecDepth 20000 in
theorem ggL_law_X0_next : GoodIn wsL_law wsX0_next := goodIn_r _ [201, 17, 109, 110, 111, 2, 112, 149, 150, 151, 152, 153, 154, 155, 156, 15, 16, 58, 59, 60, 61, 206, 207, 208, 209, 210] (by decide +kernel) (by decide +kernel)
set_option maxRecDepth 20000 in
theorem gL_law_X0_next : GoodIn wsL_law (wsV RL 62 RX0 yX0_next wsX0_next) := goodIn_app (goodIn_of _ (by decide +kernel)) ggL_law_X0_next
set_option maxRecDepth 20000 in
theorem ggL_law_X0_clear : GoodIn wsL_law wsX0_clear := goodIn_r _ [205, 17, 206, 207, 208, 209, 210] (by decide +kernel) (by decide +kernel)
set_option maxRecDepth 20000 in
theorem gL_law_X0_clear : GoodIn wsL_law (wsV RL 66 RX0 yX0_clear wsX0_clear) := goodIn_app (goodIn_of _ (by decide +kernel)) ggL_law_X0_clear
end
section
theorem dL_law_0 : decode cL_law 0 = .ok (.new 7, 3) := by decide +kernel
theorem dL_law_3 : decode cL_law 3 = .ok (.dup, 1) := by decide +kernel
theorem dL_law_4 : decode cL_law 4 = .ok (.invokespecial 9, 3) := by decide +kernel
theorem dL_law_7 : decode cL_law 7 = .ok (.astore_n 1, 1) := by decide +kernel
theorem dL_law_8 : decode cL_law 8 = .ok (.new 10, 3) := by decide +kernel
theorem dL_law_11 : decode cL_law 11 = .ok (.dup, 1) := by decide +kernel
theorem dL_law_12 : decode cL_law 12 = .ok (.invokespecial 12, 3) := by decide +kernel
theorem dL_law_15 : decode cL_law 15 = .ok (.astore_n 2, 1) := by decide +kernel
theorem dL_law_16 : decode cL_law 16 = .ok (.iconst 0, 1) := by decide +kernel
theorem dL_law_17 : decode cL_law 17 = .ok (.istore_n 3, 1) := by decide +kernel
theorem dL_law_18 : decode cL_law 18 = .ok (.iload_n 3, 1) := by decide +kernel
theorem dL_law_19 : decode cL_law 19 = .ok (.aload_n 0, 1) := by decide +kernel
theorem dL_law_20 : decode cL_law 20 = .ok (.arraylength, 1) := by decide +kernel
theorem dL_law_21 : decode cL_law 21 = .ok (.iconst 4, 1) := by decide +kernel
theorem dL_law_22 : decode cL_law 22 = .ok (.isub, 1) := by decide +kernel
theorem dL_law_23 : decode cL_law 23 = .ok (.if_icmp .gt 392, 3) := by decide +kernel
theorem dL_law_26 : decode cL_law 26 = .ok (.aload_n 0, 1) := by decide +kernel
theorem dL_law_27 : decode cL_law 27 = .ok (.iload_n 3, 1) := by decide +kernel
theorem dL_law_28 : decode cL_law 28 = .ok (.iaload, 1) := by decide +kernel
theorem dL_law_29 : decode cL_law 29 = .ok (.bipush 15, 2) := by decide +kernel
theorem dL_law_31 : decode cL_law 31 = .ok (.iand, 1) := by decide +kernel
theorem dL_law_32 : decode cL_law 32 = .ok (.tableswitch 377 0 12 #[68, 101, 124, 137, 150, 173, 186, 209, 242, 275, 298, 341, 364], 68) := by decide +kernel
theorem dL_law_100 : decode cL_law 100 = .ok (.aload_n 1, 1) := by decide +kernel
theorem dL_law_101 : decode cL_law 101 = .ok (.aload_n 0, 1) := by decide +kernel
theorem dL_law_102 : decode cL_law 102 = .ok (.iload_n 3, 1) := by decide +kernel
theorem dL_law_103 : decode cL_law 103 = .ok (.iconst 1, 1) := by decide +kernel
theorem dL_law_104 : decode cL_law 104 = .ok (.iadd, 1) := by decide +kernel
theorem dL_law_105 : decode cL_law 105 = .ok (.iaload, 1) := by decide +kernel
theorem dL_law_106 : decode cL_law 106 = .ok (.aload_n 0, 1) := by decide +kernel
theorem dL_law_107 : decode cL_law 107 = .ok (.iload_n 3, 1) := by decide +kernel
theorem dL_law_108 : decode cL_law 108 = .ok (.iconst 2, 1) := by decide +kernel
theorem dL_law_109 : decode cL_law 109 = .ok (.iadd, 1) := by decide +kernel
theorem dL_law_110 : decode cL_law 110 = .ok (.iaload, 1) := by decide +kernel
theorem dL_law_111 : decode cL_law 111 = .ok (.invokevirtual 13, 3) := by decide +kernel
theorem dL_law_114 : decode cL_law 114 = .ok (.aload_n 2, 1) := by decide +kernel
theorem dL_law_115 : decode cL_law 115 = .ok (.aload_n 0, 1) := by decide +kernel
theorem dL_law_116 : decode cL_law 116 = .ok (.iload_n 3, 1) := by decide +kernel
theorem dL_law_117 : decode cL_law 117 = .ok (.iconst 1, 1) := by decide +kernel
theorem dL_law_118 : decode cL_law 118 = .ok (.iadd, 1) := by decide +kernel
theorem dL_law_119 : decode cL_law 119 = .ok (.iaload, 1) := by decide +kernel
theorem dL_law_120 : decode cL_law 120 = .ok (.aload_n 0, 1) := by decide +kernel
theorem dL_law_121 : decode cL_law 121 = .ok (.iload_n 3, 1) := by decide +kernel
theorem dL_law_122 : decode cL_law 122 = .ok (.iconst 2, 1) := by decide +kernel
theorem dL_law_123 : decode cL_law 123 = .ok (.iadd, 1) := by decide +kernel
theorem dL_law_124 : decode cL_law 124 = .ok (.iaload, 1) := by decide +kernel
theorem dL_law_125 : decode cL_law 125 = .ok (.invokevirtual 17, 3) := by decide +kernel
theorem dL_law_128 : decode cL_law 128 = .ok (.if_icmp .eq 281, 3) := by decide +kernel
theorem dL_law_131 : decode cL_law 131 = .ok (.iconst 0, 1) := by decide +kernel
theorem dL_law_132 : decode cL_law 132 = .ok (.ireturn, 1) := by decide +kernel
theorem dL_law_133 : decode cL_law 133 = .ok (.aload_n 1, 1) := by decide +kernel
theorem dL_law_134 : decode cL_law 134 = .ok (.aload_n 0, 1) := by decide +kernel
theorem dL_law_135 : decode cL_law 135 = .ok (.iload_n 3, 1) := by decide +kernel
theorem dL_law_136 : decode cL_law 136 = .ok (.iconst 1, 1) := by decide +kernel
theorem dL_law_137 : decode cL_law 137 = .ok (.iadd, 1) := by decide +kernel
theorem dL_law_138 : decode cL_law 138 = .ok (.iaload, 1) := by decide +kernel
theorem dL_law_139 : decode cL_law 139 = .ok (.invokevirtual 18, 3) := by decide +kernel
theorem dL_law_142 : decode cL_law 142 = .ok (.aload_n 2, 1) := by decide +kernel
theorem dL_law_143 : decode cL_law 143 = .ok (.aload_n 0, 1) := by decide +kernel
theorem dL_law_144 : decode cL_law 144 = .ok (.iload_n 3, 1) := by decide +kernel
theorem dL_law_145 : decode cL_law 145 = .ok (.iconst 1, 1) := by decide +kernel
theorem dL_law_146 : decode cL_law 146 = .ok (.iadd, 1) := by decide +kernel
theorem dL_law_147 : decode cL_law 147 = .ok (.iaload, 1) := by decide +kernel
theorem dL_law_148 : decode cL_law 148 = .ok (.invokevirtual 22, 3) := by decide +kernel
theorem dL_law_151 : decode cL_law 151 = .ok (.if_icmp .eq 258, 3) := by decide +kernel
theorem dL_law_154 : decode cL_law 154 = .ok (.iconst 0, 1) := by decide +kernel
theorem dL_law_155 : decode cL_law 155 = .ok (.ireturn, 1) := by decide +kernel
theorem dL_law_156 : decode cL_law 156 = .ok (.aload_n 1, 1) := by decide +kernel
theorem dL_law_157 : decode cL_law 157 = .ok (.invokevirtual 23, 3) := by decide +kernel
theorem dL_law_160 : decode cL_law 160 = .ok (.aload_n 2, 1) := by decide +kernel
theorem dL_law_161 : decode cL_law 161 = .ok (.invokevirtual 27, 3) := by decide +kernel
theorem dL_law_164 : decode cL_law 164 = .ok (.if_icmp .eq 245, 3) := by decide +kernel
theorem dL_law_167 : decode cL_law 167 = .ok (.iconst 0, 1) := by decide +kernel
theorem dL_law_168 : decode cL_law 168 = .ok (.ireturn, 1) := by decide +kernel
theorem dL_law_169 : decode cL_law 169 = .ok (.aload_n 1, 1) := by decide +kernel
theorem dL_law_170 : decode cL_law 170 = .ok (.invokevirtual 28, 3) := by decide +kernel
theorem dL_law_173 : decode cL_law 173 = .ok (.aload_n 2, 1) := by decide +kernel
theorem dL_law_174 : decode cL_law 174 = .ok (.invokevirtual 32, 3) := by decide +kernel
theorem dL_law_177 : decode cL_law 177 = .ok (.if_icmp .eq 232, 3) := by decide +kernel
theorem dL_law_180 : decode cL_law 180 = .ok (.iconst 0, 1) := by decide +kernel
theorem dL_law_181 : decode cL_law 181 = .ok (.ireturn, 1) := by decide +kernel
theorem dL_law_182 : decode cL_law 182 = .ok (.aload_n 1, 1) := by decide +kernel
theorem dL_law_183 : decode cL_law 183 = .ok (.aload_n 0, 1) := by decide +kernel
theorem dL_law_184 : decode cL_law 184 = .ok (.iload_n 3, 1) := by decide +kernel
theorem dL_law_185 : decode cL_law 185 = .ok (.iconst 1, 1) := by decide +kernel
theorem dL_law_186 : decode cL_law 186 = .ok (.iadd, 1) := by decide +kernel
theorem dL_law_187 : decode cL_law 187 = .ok (.iaload, 1) := by decide +kernel
theorem dL_law_188 : decode cL_law 188 = .ok (.invokevirtual 33, 3) := by decide +kernel
theorem dL_law_191 : decode cL_law 191 = .ok (.aload_n 2, 1) := by decide +kernel
theorem dL_law_192 : decode cL_law 192 = .ok (.aload_n 0, 1) := by decide +kernel
theorem dL_law_193 : decode cL_law 193 = .ok (.iload_n 3, 1) := by decide +kernel
theorem dL_law_194 : decode cL_law 194 = .ok (.iconst 1, 1) := by decide +kernel
theorem dL_law_195 : decode cL_law 195 = .ok (.iadd, 1) := by decide +kernel
theorem dL_law_196 : decode cL_law 196 = .ok (.iaload, 1) := by decide +kernel
theorem dL_law_197 : decode cL_law 197 = .ok (.invokevirtual 36, 3) := by decide +kernel
theorem dL_law_200 : decode cL_law 200 = .ok (.if_icmp .eq 209, 3) := by decide +kernel
theorem dL_law_203 : decode cL_law 203 = .ok (.iconst 0, 1) := by decide +kernel
theorem dL_law_204 : decode cL_law 204 = .ok (.ireturn, 1) := by decide +kernel
theorem dL_law_205 : decode cL_law 205 = .ok (.aload_n 1, 1) := by decide +kernel
theorem dL_law_206 : decode cL_law 206 = .ok (.invokevirtual 37, 3) := by decide +kernel
theorem dL_law_209 : decode cL_law 209 = .ok (.aload_n 2, 1) := by decide +kernel
theorem dL_law_210 : decode cL_law 210 = .ok (.invokevirtual 40, 3) := by decide +kernel
theorem dL_law_213 : decode cL_law 213 = .ok (.if_icmp .eq 196, 3) := by decide +kernel
theorem dL_law_216 : decode cL_law 216 = .ok (.iconst 0, 1) := by decide +kernel
theorem dL_law_217 : decode cL_law 217 = .ok (.ireturn, 1) := by decide +kernel
theorem dL_law_218 : decode cL_law 218 = .ok (.aload_n 1, 1) := by decide +kernel
theorem dL_law_219 : decode cL_law 219 = .ok (.aload_n 0, 1) := by decide +kernel
theorem dL_law_220 : decode cL_law 220 = .ok (.iload_n 3, 1) := by decide +kernel
theorem dL_law_221 : decode cL_law 221 = .ok (.iconst 1, 1) := by decide +kernel
theorem dL_law_222 : decode cL_law 222 = .ok (.iadd, 1) := by decide +kernel
theorem dL_law_223 : decode cL_law 223 = .ok (.iaload, 1) := by decide +kernel
theorem dL_law_224 : decode cL_law 224 = .ok (.invokevirtual 41, 3) := by decide +kernel
theorem dL_law_227 : decode cL_law 227 = .ok (.aload_n 2, 1) := by decide +kernel
theorem dL_law_228 : decode cL_law 228 = .ok (.aload_n 0, 1) := by decide +kernel
theorem dL_law_229 : decode cL_law 229 = .ok (.iload_n 3, 1) := by decide +kernel
theorem dL_law_230 : decode cL_law 230 = .ok (.iconst 1, 1) := by decide +kernel
theorem dL_law_231 : decode cL_law 231 = .ok (.iadd, 1) := by decide +kernel
theorem dL_law_232 : decode cL_law 232 = .ok (.iaload, 1) := by decide +kernel
theorem dL_law_233 : decode cL_law 233 = .ok (.invokevirtual 44, 3) := by decide +kernel
theorem dL_law_236 : decode cL_law 236 = .ok (.if_icmp .eq 173, 3) := by decide +kernel
theorem dL_law_239 : decode cL_law 239 = .ok (.iconst 0, 1) := by decide +kernel
theorem dL_law_240 : decode cL_law 240 = .ok (.ireturn, 1) := by decide +kernel
theorem dL_law_241 : decode cL_law 241 = .ok (.aload_n 1, 1) := by decide +kernel
theorem dL_law_242 : decode cL_law 242 = .ok (.aload_n 0, 1) := by decide +kernel
theorem dL_law_243 : decode cL_law 243 = .ok (.iload_n 3, 1) := by decide +kernel
theorem dL_law_244 : decode cL_law 244 = .ok (.iconst 1, 1) := by decide +kernel
theorem dL_law_245 : decode cL_law 245 = .ok (.iadd, 1) := by decide +kernel
theorem dL_law_246 : decode cL_law 246 = .ok (.iaload, 1) := by decide +kernel
theorem dL_law_247 : decode cL_law 247 = .ok (.aload_n 0, 1) := by decide +kernel
theorem dL_law_248 : decode cL_law 248 = .ok (.iload_n 3, 1) := by decide +kernel
theorem dL_law_249 : decode cL_law 249 = .ok (.iconst 2, 1) := by decide +kernel
theorem dL_law_250 : decode cL_law 250 = .ok (.iadd, 1) := by decide +kernel
theorem dL_law_251 : decode cL_law 251 = .ok (.iaload, 1) := by decide +kernel
theorem dL_law_252 : decode cL_law 252 = .ok (.invokevirtual 45, 3) := by decide +kernel
theorem dL_law_255 : decode cL_law 255 = .ok (.aload_n 2, 1) := by decide +kernel
theorem dL_law_256 : decode cL_law 256 = .ok (.aload_n 0, 1) := by decide +kernel
theorem dL_law_257 : decode cL_law 257 = .ok (.iload_n 3, 1) := by decide +kernel
theorem dL_law_258 : decode cL_law 258 = .ok (.iconst 1, 1) := by decide +kernel
theorem dL_law_259 : decode cL_law 259 = .ok (.iadd, 1) := by decide +kernel
theorem dL_law_260 : decode cL_law 260 = .ok (.iaload, 1) := by decide +kernel
theorem dL_law_261 : decode cL_law 261 = .ok (.aload_n 0, 1) := by decide +kernel
theorem dL_law_262 : decode cL_law 262 = .ok (.iload_n 3, 1) := by decide +kernel
theorem dL_law_263 : decode cL_law 263 = .ok (.iconst 2, 1) := by decide +kernel
theorem dL_law_264 : decode cL_law 264 = .ok (.iadd, 1) := by decide +kernel
theorem dL_law_265 : decode cL_law 265 = .ok (.iaload, 1) := by decide +kernel
theorem dL_law_266 : decode cL_law 266 = .ok (.invokevirtual 48, 3) := by decide +kernel
theorem dL_law_269 : decode cL_law 269 = .ok (.if_icmp .eq 140, 3) := by decide +kernel
theorem dL_law_272 : decode cL_law 272 = .ok (.iconst 0, 1) := by decide +kernel
theorem dL_law_273 : decode cL_law 273 = .ok (.ireturn, 1) := by decide +kernel
theorem dL_law_274 : decode cL_law 274 = .ok (.aload_n 1, 1) := by decide +kernel
theorem dL_law_275 : decode cL_law 275 = .ok (.aload_n 0, 1) := by decide +kernel
theorem dL_law_276 : decode cL_law 276 = .ok (.iload_n 3, 1) := by decide +kernel
theorem dL_law_277 : decode cL_law 277 = .ok (.iconst 1, 1) := by decide +kernel
theorem dL_law_278 : decode cL_law 278 = .ok (.iadd, 1) := by decide +kernel
theorem dL_law_279 : decode cL_law 279 = .ok (.iaload, 1) := by decide +kernel
theorem dL_law_280 : decode cL_law 280 = .ok (.aload_n 0, 1) := by decide +kernel
theorem dL_law_281 : decode cL_law 281 = .ok (.iload_n 3, 1) := by decide +kernel
theorem dL_law_282 : decode cL_law 282 = .ok (.iconst 2, 1) := by decide +kernel
theorem dL_law_283 : decode cL_law 283 = .ok (.iadd, 1) := by decide +kernel
theorem dL_law_284 : decode cL_law 284 = .ok (.iaload, 1) := by decide +kernel
theorem dL_law_285 : decode cL_law 285 = .ok (.invokevirtual 49, 3) := by decide +kernel
theorem dL_law_288 : decode cL_law 288 = .ok (.aload_n 2, 1) := by decide +kernel
theorem dL_law_289 : decode cL_law 289 = .ok (.aload_n 0, 1) := by decide +kernel
theorem dL_law_290 : decode cL_law 290 = .ok (.iload_n 3, 1) := by decide +kernel
theorem dL_law_291 : decode cL_law 291 = .ok (.iconst 1, 1) := by decide +kernel
theorem dL_law_292 : decode cL_law 292 = .ok (.iadd, 1) := by decide +kernel
theorem dL_law_293 : decode cL_law 293 = .ok (.iaload, 1) := by decide +kernel
theorem dL_law_294 : decode cL_law 294 = .ok (.aload_n 0, 1) := by decide +kernel
theorem dL_law_295 : decode cL_law 295 = .ok (.iload_n 3, 1) := by decide +kernel
theorem dL_law_296 : decode cL_law 296 = .ok (.iconst 2, 1) := by decide +kernel
theorem dL_law_297 : decode cL_law 297 = .ok (.iadd, 1) := by decide +kernel
theorem dL_law_298 : decode cL_law 298 = .ok (.iaload, 1) := by decide +kernel
theorem dL_law_299 : decode cL_law 299 = .ok (.invokevirtual 52, 3) := by decide +kernel
theorem dL_law_302 : decode cL_law 302 = .ok (.if_icmp .eq 107, 3) := by decide +kernel
theorem dL_law_305 : decode cL_law 305 = .ok (.iconst 0, 1) := by decide +kernel
theorem dL_law_306 : decode cL_law 306 = .ok (.ireturn, 1) := by decide +kernel
theorem dL_law_307 : decode cL_law 307 = .ok (.aload_n 1, 1) := by decide +kernel
theorem dL_law_308 : decode cL_law 308 = .ok (.aload_n 0, 1) := by decide +kernel
theorem dL_law_309 : decode cL_law 309 = .ok (.iload_n 3, 1) := by decide +kernel
theorem dL_law_310 : decode cL_law 310 = .ok (.iconst 1, 1) := by decide +kernel
theorem dL_law_311 : decode cL_law 311 = .ok (.iadd, 1) := by decide +kernel
theorem dL_law_312 : decode cL_law 312 = .ok (.iaload, 1) := by decide +kernel
theorem dL_law_313 : decode cL_law 313 = .ok (.invokevirtual 53, 3) := by decide +kernel
theorem dL_law_316 : decode cL_law 316 = .ok (.aload_n 2, 1) := by decide +kernel
theorem dL_law_317 : decode cL_law 317 = .ok (.aload_n 0, 1) := by decide +kernel
theorem dL_law_318 : decode cL_law 318 = .ok (.iload_n 3, 1) := by decide +kernel
theorem dL_law_319 : decode cL_law 319 = .ok (.iconst 1, 1) := by decide +kernel
theorem dL_law_320 : decode cL_law 320 = .ok (.iadd, 1) := by decide +kernel
theorem dL_law_321 : decode cL_law 321 = .ok (.iaload, 1) := by decide +kernel
theorem dL_law_322 : decode cL_law 322 = .ok (.invokevirtual 56, 3) := by decide +kernel
theorem dL_law_325 : decode cL_law 325 = .ok (.if_icmp .eq 84, 3) := by decide +kernel
theorem dL_law_328 : decode cL_law 328 = .ok (.iconst 0, 1) := by decide +kernel
theorem dL_law_329 : decode cL_law 329 = .ok (.ireturn, 1) := by decide +kernel
theorem dL_law_330 : decode cL_law 330 = .ok (.aload_n 1, 1) := by decide +kernel
theorem dL_law_331 : decode cL_law 331 = .ok (.aload_n 0, 1) := by decide +kernel
theorem dL_law_332 : decode cL_law 332 = .ok (.iload_n 3, 1) := by decide +kernel
theorem dL_law_333 : decode cL_law 333 = .ok (.iconst 1, 1) := by decide +kernel
theorem dL_law_334 : decode cL_law 334 = .ok (.iadd, 1) := by decide +kernel
theorem dL_law_335 : decode cL_law 335 = .ok (.iaload, 1) := by decide +kernel
theorem dL_law_336 : decode cL_law 336 = .ok (.aload_n 0, 1) := by decide +kernel
theorem dL_law_337 : decode cL_law 337 = .ok (.iload_n 3, 1) := by decide +kernel
theorem dL_law_338 : decode cL_law 338 = .ok (.iconst 2, 1) := by decide +kernel
theorem dL_law_339 : decode cL_law 339 = .ok (.iadd, 1) := by decide +kernel
theorem dL_law_340 : decode cL_law 340 = .ok (.iaload, 1) := by decide +kernel
theorem dL_law_341 : decode cL_law 341 = .ok (.aload_n 0, 1) := by decide +kernel
theorem dL_law_342 : decode cL_law 342 = .ok (.iload_n 3, 1) := by decide +kernel
theorem dL_law_343 : decode cL_law 343 = .ok (.iconst 3, 1) := by decide +kernel
theorem dL_law_344 : decode cL_law 344 = .ok (.iadd, 1) := by decide +kernel
theorem dL_law_345 : decode cL_law 345 = .ok (.iaload, 1) := by decide +kernel
theorem dL_law_346 : decode cL_law 346 = .ok (.invokevirtual 57, 3) := by decide +kernel
theorem dL_law_349 : decode cL_law 349 = .ok (.aload_n 2, 1) := by decide +kernel
theorem dL_law_350 : decode cL_law 350 = .ok (.aload_n 0, 1) := by decide +kernel
theorem dL_law_351 : decode cL_law 351 = .ok (.iload_n 3, 1) := by decide +kernel
theorem dL_law_352 : decode cL_law 352 = .ok (.iconst 1, 1) := by decide +kernel
theorem dL_law_353 : decode cL_law 353 = .ok (.iadd, 1) := by decide +kernel
theorem dL_law_354 : decode cL_law 354 = .ok (.iaload, 1) := by decide +kernel
theorem dL_law_355 : decode cL_law 355 = .ok (.aload_n 0, 1) := by decide +kernel
theorem dL_law_356 : decode cL_law 356 = .ok (.iload_n 3, 1) := by decide +kernel
theorem dL_law_357 : decode cL_law 357 = .ok (.iconst 2, 1) := by decide +kernel
theorem dL_law_358 : decode cL_law 358 = .ok (.iadd, 1) := by decide +kernel
theorem dL_law_359 : decode cL_law 359 = .ok (.iaload, 1) := by decide +kernel
theorem dL_law_360 : decode cL_law 360 = .ok (.aload_n 0, 1) := by decide +kernel
theorem dL_law_361 : decode cL_law 361 = .ok (.iload_n 3, 1) := by decide +kernel
theorem dL_law_362 : decode cL_law 362 = .ok (.iconst 3, 1) := by decide +kernel
theorem dL_law_363 : decode cL_law 363 = .ok (.iadd, 1) := by decide +kernel
theorem dL_law_364 : decode cL_law 364 = .ok (.iaload, 1) := by decide +kernel
theorem dL_law_365 : decode cL_law 365 = .ok (.invokevirtual 61, 3) := by decide +kernel
theorem dL_law_368 : decode cL_law 368 = .ok (.if_icmp .eq 41, 3) := by decide +kernel
theorem dL_law_371 : decode cL_law 371 = .ok (.iconst 0, 1) := by decide +kernel
theorem dL_law_372 : decode cL_law 372 = .ok (.ireturn, 1) := by decide +kernel
theorem dL_law_373 : decode cL_law 373 = .ok (.aload_n 1, 1) := by decide +kernel
theorem dL_law_374 : decode cL_law 374 = .ok (.aload_n 0, 1) := by decide +kernel
theorem dL_law_375 : decode cL_law 375 = .ok (.iload_n 3, 1) := by decide +kernel
theorem dL_law_376 : decode cL_law 376 = .ok (.iconst 1, 1) := by decide +kernel
theorem dL_law_377 : decode cL_law 377 = .ok (.iadd, 1) := by decide +kernel
theorem dL_law_378 : decode cL_law 378 = .ok (.iaload, 1) := by decide +kernel
theorem dL_law_379 : decode cL_law 379 = .ok (.invokevirtual 62, 3) := by decide +kernel
theorem dL_law_382 : decode cL_law 382 = .ok (.aload_n 2, 1) := by decide +kernel
theorem dL_law_383 : decode cL_law 383 = .ok (.aload_n 0, 1) := by decide +kernel
theorem dL_law_384 : decode cL_law 384 = .ok (.iload_n 3, 1) := by decide +kernel
theorem dL_law_385 : decode cL_law 385 = .ok (.iconst 1, 1) := by decide +kernel
theorem dL_law_386 : decode cL_law 386 = .ok (.iadd, 1) := by decide +kernel
theorem dL_law_387 : decode cL_law 387 = .ok (.iaload, 1) := by decide +kernel
theorem dL_law_388 : decode cL_law 388 = .ok (.invokevirtual 65, 3) := by decide +kernel
theorem dL_law_391 : decode cL_law 391 = .ok (.if_icmp .eq 18, 3) := by decide +kernel
theorem dL_law_394 : decode cL_law 394 = .ok (.iconst 0, 1) := by decide +kernel
theorem dL_law_395 : decode cL_law 395 = .ok (.ireturn, 1) := by decide +kernel
theorem dL_law_396 : decode cL_law 396 = .ok (.aload_n 1, 1) := by decide +kernel
theorem dL_law_397 : decode cL_law 397 = .ok (.invokevirtual 66, 3) := by decide +kernel
theorem dL_law_400 : decode cL_law 400 = .ok (.aload_n 2, 1) := by decide +kernel
theorem dL_law_401 : decode cL_law 401 = .ok (.invokevirtual 69, 3) := by decide +kernel
theorem dL_law_404 : decode cL_law 404 = .ok (.if_icmp .eq 5, 3) := by decide +kernel
theorem dL_law_407 : decode cL_law 407 = .ok (.iconst 0, 1) := by decide +kernel
theorem dL_law_408 : decode cL_law 408 = .ok (.ireturn, 1) := by decide +kernel
theorem dL_law_409 : decode cL_law 409 = .ok (.iinc 3 4, 3) := by decide +kernel
theorem dL_law_412 : decode cL_law 412 = .ok (.goto (-394), 3) := by decide +kernel
theorem dL_law_415 : decode cL_law 415 = .ok (.iconst 1, 1) := by decide +kernel
theorem dL_law_416 : decode cL_law 416 = .ok (.ireturn, 1) := by decide +kernel
abbrev vwCl : List vw_C := [(RX0, TX0, 5), (RX1, TX1, 9)]
end
section
abbrev cn_W (cI : ClassId) (h0 hd hc hs : Nat) (wr : va_W) (dr ch st : Nat → Int32) (n rc : Nat) : va_W := (h0, .inr (0, [.ref hd, .int (nI n), .ref hc, .ref hs, .int (nI rc)])) :: (hd, .inl (cI, 2000, .inl dr)) :: (hc, .inl (cI, 20000, .inl ch)) :: (hs, .inl (cI, 3002, .inl st)) :: wr
set_option maxHeartbeats 4000000 in
set_option maxRecDepth 100000 in
/-- lengthOf -/
theorem kx_lengthOf (l : Launch) (D : va_G) {tys : List (ClassId × FieldType)} {cI : ClassId} (hty : tys[0]? = some (cI, .int)) (h0 hd hc hs : Nat) (wr : va_W) (dr ch st : Nat → Int32) (n rc : Nat) (S : Nat → Nat) (hR : cn_S st rc S) (k : Nat) (hk1 : 1 ≤ k) (hk2 : k ≤ rc) : Met l yX0_lengthOf wsX0_lengthOf ({ frames := 0, cells := 0, slots := 0, locals := 0 }) (pu_Pc D vwCl (cn_W cI h0 hd hc hs wr dr ch st n rc) tys [.ref h0, .int (nI k)]) (vp_Si (fun r => r = nI (S (k + 1) - S k))) 0 0 (fun _ => False) := by
  refine pu_of (cc := cX0_lengthOf) (maxL := 2) (ret := some .int) (own := RX0) (by decide) rfl rfl (Nat.le_of_ble_eq_true rfl) ?_
  intro p e s m below meth c hx hb hr hts hown hlocks hml hP hK ls hl
  have hl : lv_has ls 2 [(0, .ref h0), (1, .int (nI k))] := hl
  have hin0 : ∀ w ∈ u_ws RX0 TX0 5, w ∈ wsX0_lengthOf := by decide +kernel
  have f20 := hts (.fieldLink RX0 20 "NameNumbers" "starts" "[I") (by decide +kernel)
  refine lv_aload_n hx hb dX0_lengthOf_0 rfl (lv_at hl 0 rfl) ?_
  refine va_get (D := D) (ci := 0) (v := .ref hs) (C := RX0) (T := TX0) (N := 5) hx hb hts hin0 hown hK hP 0 rfl rfl 3 (by decide) f20 (fun _ h9 => h9) rfl dX0_lengthOf_1 ?_
  refine lv_iload_n hx hb dX0_lengthOf_4 rfl (lv_at hl 1 rfl) ?_
  refine lv_iconst (v := nI 1) hx hb dX0_lengthOf_5 (by decide) ?_
  refine rn_iadd hx hb dX0_lengthOf_6 ?_
  refine rn_ald (v := nI (S (k + 1))) hx hb hK hP 3 0 rfl hty (by have := hR.2.2.2.2; omega) (by decide) (hR.2.1 _ (by omega) (by omega)) dX0_lengthOf_7 ?_
  refine lv_aload_n hx hb dX0_lengthOf_8 rfl (lv_at hl 0 rfl) ?_
  refine va_get (D := D) (ci := 0) (v := .ref hs) (C := RX0) (T := TX0) (N := 5) hx hb hts hin0 hown hK hP 0 rfl rfl 3 (by decide) f20 (fun _ h9 => h9) rfl dX0_lengthOf_9 ?_
  refine lv_iload_n hx hb dX0_lengthOf_12 rfl (lv_at hl 1 rfl) ?_
  refine rn_ald (v := nI (S k)) hx hb hK hP 3 0 rfl hty (by have := hR.2.2.2.2; omega) (by decide) (hR.2.1 _ (by omega) (by omega)) dX0_lengthOf_13 ?_
  refine rn_isub hx hb (hR.2.2.1 k hk1 hk2) dX0_lengthOf_14 ?_
  exact pu_iret hx hb hr hlocks (rfl) dX0_lengthOf_15
set_option maxHeartbeats 4000000 in
set_option maxRecDepth 100000 in
/-- isRow -/
theorem kx_isRow (l : Launch) (D : va_G) {tys : List (ClassId × FieldType)} {cI : ClassId} (hty : tys[0]? = some (cI, .int)) (h0 hd hc hs : Nat) (wr : va_W) (dr ch st : Nat → Int32) (n rc : Nat) (hrc : rc ≤ 3000) (k : Int32) : Met l yX0_isRow wsX0_isRow ({ frames := 0, cells := 0, slots := 0, locals := 0 }) (pu_Pc D vwCl (cn_W cI h0 hd hc hs wr dr ch st n rc) tys [.ref h0, .int k]) (vp_Si (fun r => (r = nI 1 ∧ cn_is rc k) ∨ (r = nI 0 ∧ ¬ cn_is rc k))) 0 0 (fun _ => False) := by
  refine pu_of (cc := cX0_isRow) (maxL := 2) (ret := some .boolean) (own := RX0) (by decide) rfl rfl (Nat.le_of_ble_eq_true rfl) ?_
  intro p e s m below meth c hx hb hr hts hown hlocks hml hP hK ls hl
  have hl : lv_has ls 2 [(0, .ref h0), (1, .int k)] := hl
  have hin0 : ∀ w ∈ u_ws RX0 TX0 5, w ∈ wsX0_isRow := by decide +kernel
  have f23 := hts (.fieldLink RX0 23 "NameNumbers" "rowCount" "I") (by decide +kernel)
  refine lv_iload_n hx hb dX0_isRow_0 rfl (lv_at hl 1 rfl) ?_
  refine lv_iconst (v := nI 1) hx hb dX0_isRow_1 (by decide) ?_
  refine lv_icmp_lt (tgt := 17) hx hb dX0_isRow_2 (by decide) (fun c_2 => ?_) (fun c_2 => ?_)
  · refine lv_iconst (v := nI 0) hx hb dX0_isRow_17 (by decide) ?_
    exact pu_zret hx hb hr hlocks (by decide) (Or.inr ⟨rfl, by first | exact cn_is_lo hrc c_2 | exact cn_is_hi hrc c_10⟩) dX0_isRow_18
  · refine lv_iload_n hx hb dX0_isRow_5 rfl (lv_at hl 1 rfl) ?_
    refine lv_aload_n hx hb dX0_isRow_6 rfl (lv_at hl 0 rfl) ?_
    refine va_get (D := D) (ci := 0) (v := .int (nI rc)) (C := RX0) (T := TX0) (N := 5) hx hb hts hin0 hown hK hP 0 rfl rfl 4 (by decide) f23 (fun _ h9 => h9) rfl dX0_isRow_7 ?_
    refine lv_icmp_gt (tgt := 17) hx hb dX0_isRow_10 (by decide) (fun c_10 => ?_) (fun c_10 => ?_)
    · refine lv_iconst (v := nI 0) hx hb dX0_isRow_17 (by decide) ?_
      exact pu_zret hx hb hr hlocks (by decide) (Or.inr ⟨rfl, by first | exact cn_is_lo hrc c_2 | exact cn_is_hi hrc c_10⟩) dX0_isRow_18
    · refine lv_iconst (v := nI 1) hx hb dX0_isRow_13 (by decide) ?_
      refine lv_goto (tgt := 18) hx hb dX0_isRow_14 (by decide) ?_
      exact pu_zret hx hb hr hlocks (by decide) (Or.inl ⟨rfl, cn_is_yes hrc c_2 c_10⟩) dX0_isRow_18
set_option maxHeartbeats 4000000 in
set_option maxRecDepth 100000 in
/-- hasRoomFor -/
theorem kx_hasRoomFor (l : Launch) (D : va_G) {tys : List (ClassId × FieldType)} {cI : ClassId} (hty : tys[0]? = some (cI, .int)) (h0 hd hc hs : Nat) (wr : va_W) (dr ch st : Nat → Int32) (n rc : Nat) (S : Nat → Nat) (hR : cn_S st rc S) (n2 : Nat) (hn2 : n2 ≤ 20000) : Met l yX0_hasRoomFor wsX0_hasRoomFor ({ frames := 0, cells := 0, slots := 0, locals := 0 }) (pu_Pc D vwCl (cn_W cI h0 hd hc hs wr dr ch st n rc) tys [.ref h0, .int (nI n2)]) (vp_Si (fun r => (r = nI 1 ∧ (rc < 3000 ∧ n2 + S (rc + 1) ≤ 20000)) ∨ (r = nI 0 ∧ ¬ (rc < 3000 ∧ n2 + S (rc + 1) ≤ 20000)))) 0 0 (fun _ => False) := by
  refine pu_of (cc := cX0_hasRoomFor) (maxL := 2) (ret := some .boolean) (own := RX0) (by decide) rfl rfl (Nat.le_of_ble_eq_true rfl) ?_
  intro p e s m below meth c hx hb hr hts hown hlocks hml hP hK ls hl
  have hl : lv_has ls 2 [(0, .ref h0), (1, .int (nI n2))] := hl
  have hin0 : ∀ w ∈ u_ws RX0 TX0 5, w ∈ wsX0_hasRoomFor := by decide +kernel
  have f20 := hts (.fieldLink RX0 20 "NameNumbers" "starts" "[I") (by decide +kernel)
  have f23 := hts (.fieldLink RX0 23 "NameNumbers" "rowCount" "I") (by decide +kernel)
  refine lv_aload_n hx hb dX0_hasRoomFor_0 rfl (lv_at hl 0 rfl) ?_
  refine va_get (D := D) (ci := 0) (v := .int (nI rc)) (C := RX0) (T := TX0) (N := 5) hx hb hts hin0 hown hK hP 0 rfl rfl 4 (by decide) f23 (fun _ h9 => h9) rfl dX0_hasRoomFor_1 ?_
  refine lv_sipush (v := nI 3000) hx hb dX0_hasRoomFor_4 (by decide) ?_
  refine rn_icmp_ge (tgt := 33) hx hb (by have := hR.2.2.2.2; omega) (by have := hR.2.2.2.2; omega) dX0_hasRoomFor_7 (by decide) (fun c_7 => ?_) (fun c_7 => ?_)
  · refine lv_iconst (v := nI 0) hx hb dX0_hasRoomFor_33 (by decide) ?_
    exact pu_zret hx hb hr hlocks (by decide) (Or.inr ⟨rfl, by have := hR.2.2.2.1; omega⟩) dX0_hasRoomFor_34
  · refine lv_iload_n hx hb dX0_hasRoomFor_10 rfl (lv_at hl 1 rfl) ?_
    refine lv_sipush (v := nI 20000) hx hb dX0_hasRoomFor_11 (by decide) ?_
    refine lv_aload_n hx hb dX0_hasRoomFor_14 rfl (lv_at hl 0 rfl) ?_
    refine va_get (D := D) (ci := 0) (v := .ref hs) (C := RX0) (T := TX0) (N := 5) hx hb hts hin0 hown hK hP 0 rfl rfl 3 (by decide) f20 (fun _ h9 => h9) rfl dX0_hasRoomFor_15 ?_
    refine lv_aload_n hx hb dX0_hasRoomFor_18 rfl (lv_at hl 0 rfl) ?_
    refine va_get (D := D) (ci := 0) (v := .int (nI rc)) (C := RX0) (T := TX0) (N := 5) hx hb hts hin0 hown hK hP 0 rfl rfl 4 (by decide) f23 (fun _ h9 => h9) rfl dX0_hasRoomFor_19 ?_
    refine lv_iconst (v := nI 1) hx hb dX0_hasRoomFor_22 (by decide) ?_
    refine rn_iadd hx hb dX0_hasRoomFor_23 ?_
    refine rn_ald (v := nI (S (rc + 1))) hx hb hK hP 3 0 rfl hty (by have := hR.2.2.2.2; omega) (by decide) (hR.2.1 _ (by omega) (by omega)) dX0_hasRoomFor_24 ?_
    refine rn_isub hx hb (hR.2.2.2.1) dX0_hasRoomFor_25 ?_
    refine rn_icmp_gt (tgt := 33) hx hb (by have := hR.2.2.2.1; omega) (by have := hR.2.2.2.1; omega) dX0_hasRoomFor_26 (by decide) (fun c_26 => ?_) (fun c_26 => ?_)
    · refine lv_iconst (v := nI 0) hx hb dX0_hasRoomFor_33 (by decide) ?_
      exact pu_zret hx hb hr hlocks (by decide) (Or.inr ⟨rfl, by have := hR.2.2.2.1; omega⟩) dX0_hasRoomFor_34
    · refine lv_iconst (v := nI 1) hx hb dX0_hasRoomFor_29 (by decide) ?_
      refine lv_goto (tgt := 34) hx hb dX0_hasRoomFor_30 (by decide) ?_
      exact pu_zret hx hb hr hlocks (by decide) (Or.inl ⟨rfl, by have := hR.2.2.2.1; omega⟩) dX0_hasRoomFor_34
set_option maxHeartbeats 4000000 in
set_option maxRecDepth 100000 in
/-- findColon -/
theorem kx_findColon (l : Launch) (D : va_G) {tys : List (ClassId × FieldType)} {cI : ClassId} (hty : tys[0]? = some (cI, .int)) (h0 hd hc hs : Nat) (wr : va_W) (dr ch st : Nat → Int32) (n rc : Nat) (a z : Nat) (haz : a ≤ z) (hz : z ≤ 20000) : Met l yX0_findColon wsX0_findColon ({ frames := 0, cells := 0, slots := 0, locals := 0 }) (pu_Pc D vwCl (cn_W cI h0 hd hc hs wr dr ch st n rc) tys [.ref h0, .int (nI a), .int (nI z)]) (vp_Si (fun r => r = nI (a + sp_ix (sp_sl ch a (z - a))))) 0 0 (fun _ => False) := by
  refine pu_of (cc := cX0_findColon) (maxL := 4) (ret := some .int) (own := RX0) (by decide) rfl rfl (Nat.le_of_ble_eq_true rfl) ?_
  intro p e s m below meth c hx hb hr hts hown hlocks hml hP hK ls hl
  have hl : lv_has ls 4 [(0, .ref h0), (1, .int (nI a)), (2, .int (nI z))] := hl
  have hin0 : ∀ w ∈ u_ws RX0 TX0 5, w ∈ wsX0_findColon := by decide +kernel
  have f17 := hts (.fieldLink RX0 17 "NameNumbers" "characters" "[I") (by decide +kernel)
  have loop : ∀ (j : Nat) (i : Nat) (ls : Array Slot), z + 1 ≤ i + j → a ≤ i → i ≤ z → (∀ x, a ≤ x → x < i → ch x ≠ nI 58) → lv_has ls 4 [(0, .ref h0), (1, .int (nI a)), (2, .int (nI z)), (3, .int (nI i))] → W p l e { frames := 0, cells := 0, slots := 0, locals := 0 } s m [.ref h0, .int (nI a), .int (nI z)].toArray below meth c s.heap [] 0 0 (MQ below (vp_Si (fun r => r = nI (a + sp_ix (sp_sl ch a (z - a))))) [.ref h0, .int (nI a), .int (nI z)].toArray s 0 0 (fun _ => False)) (F0 m 2 ls []) := by
    intro j
    induction j with
    | zero => intro i ls hj hi1 hi2 hinv hl; exfalso; omega
    | succ j ih =>
      intro i ls hj hi1 hi2 hinv hl
      refine lv_iload_n hx hb dX0_findColon_2 rfl (lv_at hl 3 rfl) ?_
      refine lv_iload_n hx hb dX0_findColon_3 rfl (lv_at hl 2 rfl) ?_
      refine rn_icmp_ge (tgt := 26) hx hb (by omega) (by omega) dX0_findColon_4 (by decide) (fun c_4 => ?_) (fun c_4 => ?_)
      · refine lv_iload_n hx hb dX0_findColon_26 rfl (lv_at hl 2 rfl) ?_
        exact pu_iret hx hb hr hlocks (cn_fc_end haz (fun x h1 h2 => hinv x h1 (by omega))) dX0_findColon_27
      · refine lv_aload_n hx hb dX0_findColon_7 rfl (lv_at hl 0 rfl) ?_
        refine va_get (D := D) (ci := 0) (v := .ref hc) (C := RX0) (T := TX0) (N := 5) hx hb hts hin0 hown hK hP 0 rfl rfl 2 (by decide) f17 (fun _ h9 => h9) rfl dX0_findColon_8 ?_
        refine lv_iload_n hx hb dX0_findColon_11 rfl (lv_at hl 3 rfl) ?_
        refine rn_ald (v := ch i) hx hb hK hP 2 0 rfl hty (by omega) (by decide) (rfl) dX0_findColon_12 ?_
        refine lv_bipush (v := nI 58) hx hb dX0_findColon_13 (by decide) ?_
        refine lv_icmp_ne (tgt := 20) hx hb dX0_findColon_15 (by decide) (fun c_15 => ?_) (fun c_15 => ?_)
        · refine rn_iinc (n := 1) (lv' := [(3, .int (nI (i + 1))), (0, .ref h0), (1, .int (nI a)), (2, .int (nI z))]) hx hb dX0_findColon_20 hl (k := 3) rfl (by decide) rfl (fun ls hl => ?_)
          refine lv_goto (tgt := 2) hx hb dX0_findColon_23 (by decide) ?_
          exact ih (i + 1) ls (by omega) (by omega) (by omega) (fun x h1 h2 => (Nat.lt_or_ge x i).elim (fun q => hinv x h1 q) (fun q => by rw [show x = i by omega]; exact c_15)) (lv_sub hl [1, 2, 3, 0] rfl)
        · refine lv_iload_n hx hb dX0_findColon_18 rfl (lv_at hl 3 rfl) ?_
          exact pu_iret hx hb hr hlocks (cn_fc_hit hi1 (by omega) hinv c_15) dX0_findColon_19
  refine lv_iload_n hx hb dX0_findColon_0 rfl (lv_at hl 1 rfl) ?_
  refine lv_istore_n (lv' := [(3, .int (nI a)), (0, .ref h0), (1, .int (nI a)), (2, .int (nI z))]) hx hb dX0_findColon_1 rfl hl (by decide) rfl (fun ls hl => ?_)
  exact loop (z + 1) a ls (by omega) (Nat.le_refl a) haz (fun x h1 h2 => absurd h1 (by omega)) (lv_sub hl [1, 2, 3, 0] rfl)
set_option maxHeartbeats 4000000 in
set_option maxRecDepth 100000 in
/-- isSame -/
theorem kx_isSame (l : Launch) (D : va_G) {tys : List (ClassId × FieldType)} {cI : ClassId} (hty : tys[0]? = some (cI, .int)) (h0 hd hc hs : Nat) (wr : va_W) (dr ch st : Nat → Int32) (n rc : Nat) (S : Nat → Nat) (hR : cn_S st rc S) (qs a N2 : Nat) (f : Nat → Int32) (hq : (cn_W cI h0 hd hc hs wr dr ch st n rc)[qs]? = some (a, .inl (cI, N2, .inl f))) (hN : N2 ≤ 20000) (b0 k : Nat) (hk1 : 1 ≤ k) (hk2 : k ≤ rc) (hb0 : b0 + (S (k + 1) - S k) ≤ N2) : Met l yX0_isSame wsX0_isSame ({ frames := 1, cells := 0, slots := 0, locals := 21 }) (pu_Pc D vwCl (cn_W cI h0 hd hc hs wr dr ch st n rc) tys [.ref h0, .ref a, .int (nI b0), .int (nI k)]) (vp_Si (fun r => (r = nI 1 ∧ sp_sl f b0 (S (k + 1) - S k) = cn_row ch S k) ∨ (r = nI 0 ∧ ¬ sp_sl f b0 (S (k + 1) - S k) = cn_row ch S k))) 0 0 (fun _ => False) := by
  refine pu_of (cc := cX0_isSame) (maxL := 6) (ret := some .boolean) (own := RX0) (by decide) rfl rfl (Nat.le_of_ble_eq_true rfl) ?_
  intro p e s m below meth c hx hb hr hts hown hlocks hml hP hK ls hl
  have hl : lv_has ls 6 [(0, .ref h0), (1, .ref a), (2, .int (nI b0)), (3, .int (nI k))] := hl
  have hin0 : ∀ w ∈ u_ws RX0 TX0 5, w ∈ wsX0_isSame := by decide +kernel
  have f17 := hts (.fieldLink RX0 17 "NameNumbers" "characters" "[I") (by decide +kernel)
  have f20 := hts (.fieldLink RX0 20 "NameNumbers" "starts" "[I") (by decide +kernel)
  have hle := hR.2.2.1 k hk1 hk2
  have htop := cn_top hR (k := k + 1) (by omega) (by omega)
  have loop : ∀ (j : Nat) (i : Nat) (ls : Array Slot), (S (k + 1) - S k) + 1 ≤ i + j → i ≤ S (k + 1) - S k → (∀ x, x < i → f (b0 + x) = ch (S k + x)) → lv_has ls 6 [(0, .ref h0), (1, .ref a), (2, .int (nI b0)), (3, .int (nI k)), (4, .int (nI (S (k + 1) - S k))), (5, .int (nI i))] → W p l e { frames := 1, cells := 0, slots := 0, locals := 21 } s m [.ref h0, .ref a, .int (nI b0), .int (nI k)].toArray below meth c s.heap [] 0 0 (MQ below (vp_Si (fun r => (r = nI 1 ∧ sp_sl f b0 (S (k + 1) - S k) = cn_row ch S k) ∨ (r = nI 0 ∧ ¬ sp_sl f b0 (S (k + 1) - S k) = cn_row ch S k))) [.ref h0, .ref a, .int (nI b0), .int (nI k)].toArray s 0 0 (fun _ => False)) (F0 m 10 ls []) := by
    intro j
    induction j with
    | zero => intro i ls hj hi hinv hl; exfalso; omega
    | succ j ih =>
      intro i ls hj hi hinv hl
      refine lv_iload hx hb dX0_isSame_10 (lv_at hl 5 rfl) ?_
      refine lv_iload hx hb dX0_isSame_12 (lv_at hl 4 rfl) ?_
      refine rn_icmp_ge (tgt := 48) hx hb (by omega) (by omega) dX0_isSame_14 (by decide) (fun c_14 => ?_) (fun c_14 => ?_)
      · refine lv_iconst (v := nI 1) hx hb dX0_isSame_48 (by decide) ?_
        exact pu_zret hx hb hr hlocks (by decide) (Or.inl ⟨rfl, sp_ext (fun x hx => hinv x (by omega))⟩) dX0_isSame_49
      · refine lv_aload_n hx hb dX0_isSame_17 rfl (lv_at hl 1 rfl) ?_
        refine lv_iload_n hx hb dX0_isSame_18 rfl (lv_at hl 2 rfl) ?_
        refine lv_iload hx hb dX0_isSame_19 (lv_at hl 5 rfl) ?_
        refine rn_iadd hx hb dX0_isSame_21 ?_
        refine rn_ald (v := f (b0 + i)) hx hb hK hP qs 0 hq hty (by omega) (by omega) (rfl) dX0_isSame_22 ?_
        refine lv_aload_n hx hb dX0_isSame_23 rfl (lv_at hl 0 rfl) ?_
        refine va_get (D := D) (ci := 0) (v := .ref hc) (C := RX0) (T := TX0) (N := 5) hx hb hts hin0 hown hK hP 0 rfl rfl 2 (by decide) f17 (fun _ h9 => h9) rfl dX0_isSame_24 ?_
        refine lv_aload_n hx hb dX0_isSame_27 rfl (lv_at hl 0 rfl) ?_
        refine va_get (D := D) (ci := 0) (v := .ref hs) (C := RX0) (T := TX0) (N := 5) hx hb hts hin0 hown hK hP 0 rfl rfl 3 (by decide) f20 (fun _ h9 => h9) rfl dX0_isSame_28 ?_
        refine lv_iload_n hx hb dX0_isSame_31 rfl (lv_at hl 3 rfl) ?_
        refine rn_ald (v := nI (S k)) hx hb hK hP 3 0 rfl hty (by have := hR.2.2.2.2; omega) (by decide) (hR.2.1 _ (by omega) (by omega)) dX0_isSame_32 ?_
        refine lv_iload hx hb dX0_isSame_33 (lv_at hl 5 rfl) ?_
        refine rn_iadd hx hb dX0_isSame_35 ?_
        refine rn_ald (v := ch (S k + i)) hx hb hK hP 2 0 rfl hty (by omega) (by decide) (rfl) dX0_isSame_36 ?_
        refine lv_icmp_eq (tgt := 42) hx hb dX0_isSame_37 (by decide) (fun c_37 => ?_) (fun c_37 => ?_)
        · refine rn_iinc (n := 1) (lv' := [(5, .int (nI (i + 1))), (0, .ref h0), (1, .ref a), (2, .int (nI b0)), (3, .int (nI k)), (4, .int (nI (S (k + 1) - S k)))]) hx hb dX0_isSame_42 hl (k := 5) rfl (by decide) rfl (fun ls hl => ?_)
          refine lv_goto (tgt := 10) hx hb dX0_isSame_45 (by decide) ?_
          exact ih (i + 1) ls (by omega) (by omega) (fun x h2 => (Nat.lt_or_ge x i).elim (fun q => hinv x q) (fun q => by rw [show x = i by omega]; exact c_37)) (lv_sub hl [1, 2, 3, 4, 5, 0] rfl)
        · refine lv_iconst (v := nI 0) hx hb dX0_isSame_40 (by decide) ?_
          exact pu_zret hx hb hr hlocks (by decide) (Or.inr ⟨rfl, fun q => c_37 (sp_at q i (by omega))⟩) dX0_isSame_41
  refine lv_aload_n hx hb dX0_isSame_0 rfl (lv_at hl 0 rfl) ?_
  refine lv_iload_n hx hb dX0_isSame_1 rfl (lv_at hl 3 rfl) ?_
  refine vp_callSi (W.runV (As := [.int (nI k)]) (rest := []) ⟨hx, hb, hml, hown, hts⟩ (kx_lengthOf l D hty h0 hd hc hs wr dr ch st n rc S hR k (by omega) (by omega)) (cwV 1 hts gX0_isSame_X0_lengthOf rfl rfl rfl (by decide +kernel) ⟨Nat.le_of_ble_eq_true rfl, Nat.le_of_ble_eq_true rfl⟩) (pu_preV hK hP 0 rfl rfl) rfl rfl hl.1 rfl (lv_room (Nat.le_of_ble_eq_true rfl)) dX0_isSame_2 ⟨Nat.zero_le _, Nat.zero_le _⟩) (fun r2 er2 => ?_)
  subst er2
  refine lv_istore (lv' := [(4, .int (nI (S (k + 1) - S k))), (0, .ref h0), (1, .ref a), (2, .int (nI b0)), (3, .int (nI k))]) hx hb dX0_isSame_5 hl (by decide) rfl (fun ls hl => ?_)
  refine lv_iconst (v := nI 0) hx hb dX0_isSame_7 (by decide) ?_
  refine lv_istore (lv' := [(5, .int (nI 0)), (4, .int (nI (S (k + 1) - S k))), (0, .ref h0), (1, .ref a), (2, .int (nI b0)), (3, .int (nI k))]) hx hb dX0_isSame_8 hl (by decide) rfl (fun ls hl => ?_)
  exact loop ((S (k + 1) - S k) + 1) 0 ls (by omega) (Nat.zero_le _) (fun x h => absurd h (Nat.not_lt_zero x)) (lv_sub hl [2, 3, 4, 5, 1, 0] rfl)
set_option maxHeartbeats 4000000 in
set_option maxRecDepth 100000 in
/-- find -/
theorem kx_find (l : Launch) (D : va_G) {tys : List (ClassId × FieldType)} {cI : ClassId} (hty : tys[0]? = some (cI, .int)) (h0 hd hc hs : Nat) (wr : va_W) (dr ch st : Nat → Int32) (n rc : Nat) (S : Nat → Nat) (hR : cn_S st rc S) (qs a N2 : Nat) (f : Nat → Int32) (hq : (cn_W cI h0 hd hc hs wr dr ch st n rc)[qs]? = some (a, .inl (cI, N2, .inl f))) (hN : N2 ≤ 20000) (b0 n2 : Nat) (hb0 : b0 + n2 ≤ N2) : Met l yX0_find wsX0_find ({ frames := 2, cells := 0, slots := 0, locals := 46 }) (pu_Pc D vwCl (cn_W cI h0 hd hc hs wr dr ch st n rc) tys [.ref h0, .ref a, .int (nI b0), .int (nI n2)]) (vp_Si (fun r => r = sp_an (sp_fd (sp_sl f b0 n2) (cn_rows ch S 1 rc) 1))) 0 0 (fun _ => False) := by
  refine pu_of (cc := cX0_find) (maxL := 5) (ret := some .int) (own := RX0) (by decide) rfl rfl (Nat.le_of_ble_eq_true rfl) ?_
  intro p e s m below meth c hx hb hr hts hown hlocks hml hP hK ls hl
  have hl : lv_has ls 5 [(0, .ref h0), (1, .ref a), (2, .int (nI b0)), (3, .int (nI n2))] := hl
  have hin0 : ∀ w ∈ u_ws RX0 TX0 5, w ∈ wsX0_find := by decide +kernel
  have f23 := hts (.fieldLink RX0 23 "NameNumbers" "rowCount" "I") (by decide +kernel)
  have loop : ∀ (j : Nat) (k : Nat) (ls : Array Slot), rc + 2 ≤ k + j → 1 ≤ k → k ≤ rc + 1 → sp_fd (sp_sl f b0 n2) (cn_rows ch S 1 rc) 1 = sp_fd (sp_sl f b0 n2) (cn_rows ch S k (rc + 1 - k)) k → lv_has ls 5 [(0, .ref h0), (1, .ref a), (2, .int (nI b0)), (3, .int (nI n2)), (4, .int (nI k))] → W p l e { frames := 2, cells := 0, slots := 0, locals := 46 } s m [.ref h0, .ref a, .int (nI b0), .int (nI n2)].toArray below meth c s.heap [] 0 0 (MQ below (vp_Si (fun r => r = sp_an (sp_fd (sp_sl f b0 n2) (cn_rows ch S 1 rc) 1))) [.ref h0, .ref a, .int (nI b0), .int (nI n2)].toArray s 0 0 (fun _ => False)) (F0 m 3 ls []) := by
    intro j
    induction j with
    | zero => intro k ls hj hk1 hk2 hinv hl; exfalso; omega
    | succ j ih =>
      intro k ls hj hk1 hk2 hinv hl
      refine lv_iload hx hb dX0_find_3 (lv_at hl 4 rfl) ?_
      refine lv_aload_n hx hb dX0_find_5 rfl (lv_at hl 0 rfl) ?_
      refine va_get (D := D) (ci := 0) (v := .int (nI rc)) (C := RX0) (T := TX0) (N := 5) hx hb hts hin0 hown hK hP 0 rfl rfl 4 (by decide) f23 (fun _ h9 => h9) rfl dX0_find_6 ?_
      refine rn_icmp_gt (tgt := 42) hx hb (by have := hR.2.2.2.2; omega) (by have := hR.2.2.2.2; omega) dX0_find_9 (by decide) (fun c_9 => ?_) (fun c_9 => ?_)
      · refine lv_iconst (v := (-1)) hx hb dX0_find_42 (by decide) ?_
        exact pu_iret hx hb hr hlocks (cn_fd_end (by omega) hinv) dX0_find_43
      · refine lv_aload_n hx hb dX0_find_12 rfl (lv_at hl 0 rfl) ?_
        refine lv_iload hx hb dX0_find_13 (lv_at hl 4 rfl) ?_
        refine vp_callSi (W.runV (As := [.int (nI k)]) (rest := []) ⟨hx, hb, hml, hown, hts⟩ (kx_lengthOf l D hty h0 hd hc hs wr dr ch st n rc S hR k (by omega) (by omega)) (cwV 1 hts gX0_find_X0_lengthOf rfl rfl rfl (by decide +kernel) ⟨Nat.le_of_ble_eq_true rfl, Nat.le_of_ble_eq_true rfl⟩) (pu_preV hK hP 0 rfl rfl) rfl rfl hl.1 rfl (lv_room (Nat.le_of_ble_eq_true rfl)) dX0_find_15 ⟨Nat.zero_le _, Nat.zero_le _⟩) (fun r15 er15 => ?_)
        subst er15
        refine lv_iload_n hx hb dX0_find_18 rfl (lv_at hl 3 rfl) ?_
        refine rn_icmp_ne (tgt := 36) hx hb (by have := cn_top hR (k := k + 1) (by omega) (by omega); omega) (by have := cn_top hR (k := k + 1) (by omega) (by omega); omega) dX0_find_19 (by decide) (fun c_19 => ?_) (fun c_19 => ?_)
        · refine rn_iinc (n := 1) (lv' := [(4, .int (nI (k + 1))), (0, .ref h0), (1, .ref a), (2, .int (nI b0)), (3, .int (nI n2))]) hx hb dX0_find_36 hl (k := 4) rfl (by decide) rfl (fun ls hl => ?_)
          refine lv_goto (tgt := 3) hx hb dX0_find_39 (by decide) ?_
          exact ih (k + 1) ls (by omega) (by omega) (by omega) (cn_fd_miss (by omega) hinv (by first | (intro q; exact c_19 (by have := congrArg List.length q; rw [cn_row, sp_len, sp_len] at this; exact this)) | (rw [← c_19]; exact fun q => hs_1 q.symm))) (lv_sub hl [1, 2, 3, 4, 0] rfl)
        · refine lv_aload_n hx hb dX0_find_22 rfl (lv_at hl 0 rfl) ?_
          refine lv_aload_n hx hb dX0_find_23 rfl (lv_at hl 1 rfl) ?_
          refine lv_iload_n hx hb dX0_find_24 rfl (lv_at hl 2 rfl) ?_
          refine lv_iload hx hb dX0_find_25 (lv_at hl 4 rfl) ?_
          refine vp_callSi (W.runV (As := [.ref a, .int (nI b0), .int (nI k)]) (rest := []) ⟨hx, hb, hml, hown, hts⟩ (kx_isSame l D hty h0 hd hc hs wr dr ch st n rc S hR qs a N2 f hq hN b0 k (by omega) (by omega) (by omega)) (cwV 3 hts gX0_find_X0_isSame rfl rfl rfl (by decide +kernel) ⟨Nat.le_of_ble_eq_true rfl, Nat.le_of_ble_eq_true rfl⟩) (pu_preV hK hP 0 rfl rfl) rfl rfl hl.1 rfl (lv_room (Nat.le_of_ble_eq_true rfl)) dX0_find_27 ⟨Nat.zero_le _, Nat.zero_le _⟩) (fun r27 er27 => ?_)
          rcases er27 with ⟨er27, hs_1⟩ | ⟨er27, hs_1⟩
          · subst er27
            refine lv_if_eq (tgt := 36) hx hb dX0_find_30 (by decide) (fun c_30 => absurd c_30 (by decide)) (fun c_30 => ?_)
            refine lv_iload hx hb dX0_find_33 (lv_at hl 4 rfl) ?_
            exact pu_iret hx hb hr hlocks (cn_fd_hit (by omega) hinv (by rw [c_19] at hs_1; exact hs_1.symm)) dX0_find_35
          · subst er27
            refine lv_if_eq (tgt := 36) hx hb dX0_find_30 (by decide) (fun c_30 => ?_) (fun c_30 => absurd c_30 (not_not_intro (by decide)))
            refine rn_iinc (n := 1) (lv' := [(4, .int (nI (k + 1))), (0, .ref h0), (1, .ref a), (2, .int (nI b0)), (3, .int (nI n2))]) hx hb dX0_find_36 hl (k := 4) rfl (by decide) rfl (fun ls hl => ?_)
            refine lv_goto (tgt := 3) hx hb dX0_find_39 (by decide) ?_
            exact ih (k + 1) ls (by omega) (by omega) (by omega) (cn_fd_miss (by omega) hinv (by first | (intro q; exact c_19 (by have := congrArg List.length q; rw [cn_row, sp_len, sp_len] at this; exact this)) | (rw [← c_19]; exact fun q => hs_1 q.symm))) (lv_sub hl [1, 2, 3, 4, 0] rfl)
  refine lv_iconst (v := nI 1) hx hb dX0_find_0 (by decide) ?_
  refine lv_istore (lv' := [(4, .int (nI 1)), (0, .ref h0), (1, .ref a), (2, .int (nI b0)), (3, .int (nI n2))]) hx hb dX0_find_1 hl (by decide) rfl (fun ls hl => ?_)
  exact loop (rc + 2) 1 ls (by omega) (Nat.le_refl 1) (by omega) rfl (lv_sub hl [1, 2, 3, 4, 0] rfl)
end
section
set_option maxHeartbeats 4000000 in
set_option maxRecDepth 100000 in
/-- order -/
theorem kx_order (l : Launch) (D : va_G) {tys : List (ClassId × FieldType)} {cI : ClassId} (hty : tys[0]? = some (cI, .int)) (h0 hd hc hs : Nat) (wr : va_W) (dr ch st : Nat → Int32) (n rc : Nat) (S : Nat → Nat) (hR : cn_S st rc S) (u v : Nat) (hu1 : 1 ≤ u) (hu2 : u ≤ rc) (hv1 : 1 ≤ v) (hv2 : v ≤ rc) : Met l yX0_order wsX0_order ({ frames := 1, cells := 0, slots := 0, locals := 30 }) (pu_Pc D vwCl (cn_W cI h0 hd hc hs wr dr ch st n rc) tys [.ref h0, .int (nI u), .int (nI v)]) (vp_Si (fun r => r = sp_cmp (cn_row ch S u) (cn_row ch S v))) 0 0 (fun _ => False) := by
  refine pu_of (cc := cX0_order) (maxL := 7) (ret := some .int) (own := RX0) (by decide) rfl rfl (Nat.le_of_ble_eq_true rfl) ?_
  intro p e s m below meth c hx hb hr hts hown hlocks hml hP hK ls hl
  have hl : lv_has ls 7 [(0, .ref h0), (1, .int (nI u)), (2, .int (nI v))] := hl
  have hin0 : ∀ w ∈ u_ws RX0 TX0 5, w ∈ wsX0_order := by decide +kernel
  have f17 := hts (.fieldLink RX0 17 "NameNumbers" "characters" "[I") (by decide +kernel)
  have f20 := hts (.fieldLink RX0 20 "NameNumbers" "starts" "[I") (by decide +kernel)
  have hlu := hR.2.2.1 u hu1 hu2
  have hlv := hR.2.2.1 v hv1 hv2
  have htu := cn_top hR (k := u + 1) (by omega) (by omega)
  have htv := cn_top hR (k := v + 1) (by omega) (by omega)
  have loop : ∀ (j : Nat) (i : Nat) (ls : Array Slot), min (S (u + 1) - S u) (S (v + 1) - S v) + 1 ≤ i + j → i ≤ min (S (u + 1) - S u) (S (v + 1) - S v) → (∀ x, x < i → ch (S u + x) = ch (S v + x)) → lv_has ls 7 [(0, .ref h0), (1, .int (nI u)), (2, .int (nI v)), (3, .int (nI (min (S (u + 1) - S u) (S (v + 1) - S v)))), (4, .int (nI i))] → W p l e { frames := 1, cells := 0, slots := 0, locals := 30 } s m [.ref h0, .int (nI u), .int (nI v)].toArray below meth c s.heap [] 0 0 (MQ below (vp_Si (fun r => r = sp_cmp (cn_row ch S u) (cn_row ch S v))) [.ref h0, .int (nI u), .int (nI v)].toArray s 0 0 (fun _ => False)) (F0 m 17 ls []) := by
    intro j
    induction j with
    | zero => intro i ls hj hi hinv hl; exfalso; omega
    | succ j ih =>
      intro i ls hj hi hinv hl
      refine lv_iload hx hb dX0_order_17 (lv_at hl 4 rfl) ?_
      refine lv_iload_n hx hb dX0_order_19 rfl (lv_at hl 3 rfl) ?_
      refine rn_icmp_ge (tgt := 81) hx hb (by omega) (by omega) dX0_order_20 (by decide) (fun c_20 => ?_) (fun c_20 => ?_)
      · refine lv_aload_n hx hb dX0_order_81 rfl (lv_at hl 0 rfl) ?_
        refine lv_iload_n hx hb dX0_order_82 rfl (lv_at hl 1 rfl) ?_
        refine vp_callSi (W.runV (As := [.int (nI u)]) (rest := []) ⟨hx, hb, hml, hown, hts⟩ (kx_lengthOf l D hty h0 hd hc hs wr dr ch st n rc S hR u (by omega) (by omega)) (cwV 1 hts gX0_order_X0_lengthOf rfl rfl rfl (by decide +kernel) ⟨Nat.le_of_ble_eq_true rfl, Nat.le_of_ble_eq_true rfl⟩) (pu_preV hK hP 0 rfl rfl) rfl rfl hl.1 rfl (lv_room (Nat.le_of_ble_eq_true rfl)) dX0_order_83 ⟨Nat.zero_le _, Nat.zero_le _⟩) (fun r83 er83 => ?_)
        subst er83
        refine lv_aload_n hx hb dX0_order_86 rfl (lv_at hl 0 rfl) ?_
        refine lv_iload_n hx hb dX0_order_87 rfl (lv_at hl 2 rfl) ?_
        refine vp_callSi (W.runV (As := [.int (nI v)]) (rest := [.int (nI (S (u + 1) - S u))]) ⟨hx, hb, hml, hown, hts⟩ (kx_lengthOf l D hty h0 hd hc hs wr dr ch st n rc S hR v (by omega) (by omega)) (cwV 1 hts gX0_order_X0_lengthOf rfl rfl rfl (by decide +kernel) ⟨Nat.le_of_ble_eq_true rfl, Nat.le_of_ble_eq_true rfl⟩) (pu_preV hK hP 0 rfl rfl) rfl rfl hl.1 rfl (lv_room (Nat.le_of_ble_eq_true rfl)) dX0_order_88 ⟨Nat.zero_le _, Nat.zero_le _⟩) (fun r88 er88 => ?_)
        subst er88
        refine rn_icmp_ne (tgt := 96) hx hb (by omega) (by omega) dX0_order_91 (by decide) (fun c_91 => ?_) (fun c_91 => ?_)
        · refine lv_aload_n hx hb dX0_order_96 rfl (lv_at hl 0 rfl) ?_
          refine lv_iload_n hx hb dX0_order_97 rfl (lv_at hl 1 rfl) ?_
          refine vp_callSi (W.runV (As := [.int (nI u)]) (rest := []) ⟨hx, hb, hml, hown, hts⟩ (kx_lengthOf l D hty h0 hd hc hs wr dr ch st n rc S hR u (by omega) (by omega)) (cwV 1 hts gX0_order_X0_lengthOf rfl rfl rfl (by decide +kernel) ⟨Nat.le_of_ble_eq_true rfl, Nat.le_of_ble_eq_true rfl⟩) (pu_preV hK hP 0 rfl rfl) rfl rfl hl.1 rfl (lv_room (Nat.le_of_ble_eq_true rfl)) dX0_order_98 ⟨Nat.zero_le _, Nat.zero_le _⟩) (fun r98 er98 => ?_)
          subst er98
          refine lv_aload_n hx hb dX0_order_101 rfl (lv_at hl 0 rfl) ?_
          refine lv_iload_n hx hb dX0_order_102 rfl (lv_at hl 2 rfl) ?_
          refine vp_callSi (W.runV (As := [.int (nI v)]) (rest := [.int (nI (S (u + 1) - S u))]) ⟨hx, hb, hml, hown, hts⟩ (kx_lengthOf l D hty h0 hd hc hs wr dr ch st n rc S hR v (by omega) (by omega)) (cwV 1 hts gX0_order_X0_lengthOf rfl rfl rfl (by decide +kernel) ⟨Nat.le_of_ble_eq_true rfl, Nat.le_of_ble_eq_true rfl⟩) (pu_preV hK hP 0 rfl rfl) rfl rfl hl.1 rfl (lv_room (Nat.le_of_ble_eq_true rfl)) dX0_order_103 ⟨Nat.zero_le _, Nat.zero_le _⟩) (fun r103 er103 => ?_)
          subst er103
          refine rn_icmp_ge (tgt := 113) hx hb (by omega) (by omega) dX0_order_106 (by decide) (fun c_106 => ?_) (fun c_106 => ?_)
          · refine lv_iconst (v := nI 1) hx hb dX0_order_113 (by decide) ?_
            exact pu_iret hx hb hr hlocks (by rw [cn_row, cn_row, cn_cmp_end _ _ _ _ (fun x h1 h2 => hinv x (by omega)), if_neg c_91, if_neg (by omega)]; rfl) dX0_order_114
          · refine lv_iconst (v := (-1)) hx hb dX0_order_109 (by decide) ?_
            refine lv_goto (tgt := 114) hx hb dX0_order_110 (by decide) ?_
            exact pu_iret hx hb hr hlocks (by rw [cn_row, cn_row, cn_cmp_end _ _ _ _ (fun x h1 h2 => hinv x (by omega)), if_neg c_91, if_pos (by omega)]) dX0_order_114
        · refine lv_iconst (v := nI 0) hx hb dX0_order_94 (by decide) ?_
          exact pu_iret hx hb hr hlocks (by rw [cn_row, cn_row, cn_cmp_end _ _ _ _ (fun x h1 h2 => hinv x (by omega)), if_pos c_91]; rfl) dX0_order_95
      · refine lv_aload_n hx hb dX0_order_23 rfl (lv_at hl 0 rfl) ?_
        refine va_get (D := D) (ci := 0) (v := .ref hc) (C := RX0) (T := TX0) (N := 5) hx hb hts hin0 hown hK hP 0 rfl rfl 2 (by decide) f17 (fun _ h9 => h9) rfl dX0_order_24 ?_
        refine lv_aload_n hx hb dX0_order_27 rfl (lv_at hl 0 rfl) ?_
        refine va_get (D := D) (ci := 0) (v := .ref hs) (C := RX0) (T := TX0) (N := 5) hx hb hts hin0 hown hK hP 0 rfl rfl 3 (by decide) f20 (fun _ h9 => h9) rfl dX0_order_28 ?_
        refine lv_iload_n hx hb dX0_order_31 rfl (lv_at hl 1 rfl) ?_
        refine rn_ald (v := nI (S u)) hx hb hK hP 3 0 rfl hty (by have := hR.2.2.2.2; omega) (by decide) (hR.2.1 _ (by omega) (by omega)) dX0_order_32 ?_
        refine lv_iload hx hb dX0_order_33 (lv_at hl 4 rfl) ?_
        refine rn_iadd hx hb dX0_order_35 ?_
        refine rn_ald (v := ch (S u + i)) hx hb hK hP 2 0 rfl hty (by omega) (by decide) (rfl) dX0_order_36 ?_
        refine lv_istore (lv' := [(5, .int (ch (S u + i))), (0, .ref h0), (1, .int (nI u)), (2, .int (nI v)), (3, .int (nI (min (S (u + 1) - S u) (S (v + 1) - S v)))), (4, .int (nI i))]) hx hb dX0_order_37 hl (by decide) rfl (fun ls hl => ?_)
        refine lv_aload_n hx hb dX0_order_39 rfl (lv_at hl 1 rfl) ?_
        refine va_get (D := D) (ci := 0) (v := .ref hc) (C := RX0) (T := TX0) (N := 5) hx hb hts hin0 hown hK hP 0 rfl rfl 2 (by decide) f17 (fun _ h9 => h9) rfl dX0_order_40 ?_
        refine lv_aload_n hx hb dX0_order_43 rfl (lv_at hl 1 rfl) ?_
        refine va_get (D := D) (ci := 0) (v := .ref hs) (C := RX0) (T := TX0) (N := 5) hx hb hts hin0 hown hK hP 0 rfl rfl 3 (by decide) f20 (fun _ h9 => h9) rfl dX0_order_44 ?_
        refine lv_iload_n hx hb dX0_order_47 rfl (lv_at hl 3 rfl) ?_
        refine rn_ald (v := nI (S v)) hx hb hK hP 3 0 rfl hty (by have := hR.2.2.2.2; omega) (by decide) (hR.2.1 _ (by omega) (by omega)) dX0_order_48 ?_
        refine lv_iload hx hb dX0_order_49 (lv_at hl 5 rfl) ?_
        refine rn_iadd hx hb dX0_order_51 ?_
        refine rn_ald (v := ch (S v + i)) hx hb hK hP 2 0 rfl hty (by omega) (by decide) (rfl) dX0_order_52 ?_
        refine lv_istore (lv' := [(6, .int (ch (S v + i))), (5, .int (ch (S u + i))), (0, .ref h0), (1, .int (nI u)), (2, .int (nI v)), (3, .int (nI (min (S (u + 1) - S u) (S (v + 1) - S v)))), (4, .int (nI i))]) hx hb dX0_order_53 hl (by decide) rfl (fun ls hl => ?_)
        refine lv_iload hx hb dX0_order_55 (lv_at hl 1 rfl) ?_
        refine lv_iload hx hb dX0_order_57 (lv_at hl 0 rfl) ?_
        refine lv_icmp_eq (tgt := 75) hx hb dX0_order_59 (by decide) (fun c_59 => ?_) (fun c_59 => ?_)
        · refine rn_iinc (n := 1) (lv' := [(4, .int (nI (i + 1))), (6, .int (ch (S v + i))), (5, .int (ch (S u + i))), (0, .ref h0), (1, .int (nI u)), (2, .int (nI v)), (3, .int (nI (min (S (u + 1) - S u) (S (v + 1) - S v))))]) hx hb dX0_order_75 hl (k := 6) rfl (by decide) rfl (fun ls hl => ?_)
          refine lv_goto (tgt := 17) hx hb dX0_order_78 (by decide) ?_
          exact ih (i + 1) ls (by omega) (by omega) (fun x h2 => (Nat.lt_or_ge x i).elim (fun q => hinv x q) (fun q => by rw [show x = i by omega]; exact c_59)) (lv_sub hl [3, 4, 5, 6, 0] rfl)
        · refine lv_iload hx hb dX0_order_62 (lv_at hl 1 rfl) ?_
          refine lv_iload hx hb dX0_order_64 (lv_at hl 0 rfl) ?_
          refine lv_icmp_ge (tgt := 73) hx hb dX0_order_66 (by decide) (fun c_66 => ?_) (fun c_66 => ?_)
          · refine lv_iconst (v := nI 1) hx hb dX0_order_73 (by decide) ?_
            exact pu_iret hx hb hr hlocks (by rw [cn_row, cn_row, cn_cmp_diff i _ _ _ _ hinv (by omega) (by omega) c_59, if_neg (by intro q; exact Int32.lt_irrefl (Int32.lt_of_lt_of_le q c_66))]; rfl) dX0_order_74
          · refine lv_iconst (v := (-1)) hx hb dX0_order_69 (by decide) ?_
            refine lv_goto (tgt := 74) hx hb dX0_order_70 (by decide) ?_
            exact pu_iret hx hb hr hlocks (by rw [cn_row, cn_row, cn_cmp_diff i _ _ _ _ hinv (by omega) (by omega) c_59, if_pos (Int32.not_le.mp c_66)]) dX0_order_74
  refine lv_aload_n hx hb dX0_order_0 rfl (lv_at hl 0 rfl) ?_
  refine lv_iload_n hx hb dX0_order_1 rfl (lv_at hl 1 rfl) ?_
  refine vp_callSi (W.runV (As := [.int (nI u)]) (rest := []) ⟨hx, hb, hml, hown, hts⟩ (kx_lengthOf l D hty h0 hd hc hs wr dr ch st n rc S hR u (by omega) (by omega)) (cwV 1 hts gX0_order_X0_lengthOf rfl rfl rfl (by decide +kernel) ⟨Nat.le_of_ble_eq_true rfl, Nat.le_of_ble_eq_true rfl⟩) (pu_preV hK hP 0 rfl rfl) rfl rfl hl.1 rfl (lv_room (Nat.le_of_ble_eq_true rfl)) dX0_order_2 ⟨Nat.zero_le _, Nat.zero_le _⟩) (fun r2 er2 => ?_)
  subst er2
  refine lv_aload_n hx hb dX0_order_5 rfl (lv_at hl 0 rfl) ?_
  refine lv_iload_n hx hb dX0_order_6 rfl (lv_at hl 2 rfl) ?_
  refine vp_callSi (W.runV (As := [.int (nI v)]) (rest := [.int (nI (S (u + 1) - S u))]) ⟨hx, hb, hml, hown, hts⟩ (kx_lengthOf l D hty h0 hd hc hs wr dr ch st n rc S hR v (by omega) (by omega)) (cwV 1 hts gX0_order_X0_lengthOf rfl rfl rfl (by decide +kernel) ⟨Nat.le_of_ble_eq_true rfl, Nat.le_of_ble_eq_true rfl⟩) (pu_preV hK hP 0 rfl rfl) rfl rfl hl.1 rfl (lv_room (Nat.le_of_ble_eq_true rfl)) dX0_order_7 ⟨Nat.zero_le _, Nat.zero_le _⟩) (fun r7 er7 => ?_)
  subst er7
  refine va_mmin hx hb (hml.trans hl.1.symm) hown (hts (.methodLink RX0 68 Lib.Math.min.name) (by decide +kernel)) (hts (.static Lib.Math.min.name) (by decide +kernel)) (hts (.initialized "java/lang/Math") (by decide +kernel)) (hts _ (List.mem_of_getElem? (i := 4) rfl)) (Nat.le_of_ble_eq_true rfl) (Nat.le_of_ble_eq_true rfl) (Nat.zero_le _) (Nat.zero_le _) dX0_order_10 ?_
  rw [sp_min (x := S (u + 1) - S u) (y := S (v + 1) - S v) (by omega) (by omega)]
  refine lv_istore_n (lv' := [(3, .int (nI (min (S (u + 1) - S u) (S (v + 1) - S v)))), (0, .ref h0), (1, .int (nI u)), (2, .int (nI v))]) hx hb dX0_order_13 rfl hl (by decide) rfl (fun ls hl => ?_)
  refine lv_iconst (v := nI 0) hx hb dX0_order_14 (by decide) ?_
  refine lv_istore (lv' := [(4, .int (nI 0)), (3, .int (nI (min (S (u + 1) - S u) (S (v + 1) - S v)))), (0, .ref h0), (1, .int (nI u)), (2, .int (nI v))]) hx hb dX0_order_15 hl (by decide) rfl (fun ls hl => ?_)
  exact loop (min (S (u + 1) - S u) (S (v + 1) - S v) + 1) 0 ls (by omega) (Nat.zero_le _) (fun x h => absurd h (Nat.not_lt_zero x)) (lv_sub hl [2, 3, 4, 1, 0] rfl)
set_option maxHeartbeats 4000000 in
set_option maxRecDepth 100000 in
/-- rows -/
theorem kx_rows (l : Launch) (D : va_G) {tys : List (ClassId × FieldType)} {cI : ClassId} (hty : tys[0]? = some (cI, .int)) (h0 hd hc hs : Nat) (wr : va_W) (dr ch st : Nat → Int32) (n rc : Nat)  : Met l yX0_rows wsX0_rows ({ frames := 0, cells := 0, slots := 0, locals := 0 }) (pu_Pc D vwCl (cn_W cI h0 hd hc hs wr dr ch st n rc) tys [.ref h0]) (vp_Si (fun r => r = nI rc)) 0 0 (fun _ => False) := by
  refine pu_of (cc := cX0_rows) (maxL := 1) (ret := some .int) (own := RX0) (by decide) rfl rfl (Nat.le_of_ble_eq_true rfl) ?_
  intro p e s m below meth c hx hb hr hts hown hlocks hml hP hK ls hl
  have hl : lv_has ls 1 [(0, .ref h0)] := hl
  have hin0 : ∀ w ∈ u_ws RX0 TX0 5, w ∈ wsX0_rows := by decide +kernel
  have f23 := hts (.fieldLink RX0 23 "NameNumbers" "rowCount" "I") (by decide +kernel)
  refine lv_aload_n hx hb dX0_rows_0 rfl (lv_at hl 0 rfl) ?_
  refine va_get (D := D) (ci := 0) (v := .int (nI rc)) (C := RX0) (T := TX0) (N := 5) hx hb hts hin0 hown hK hP 0 rfl rfl 4 (by decide) f23 (fun _ h9 => h9) rfl dX0_rows_1 ?_
  exact pu_iret hx hb hr hlocks (rfl) dX0_rows_4
set_option maxHeartbeats 4000000 in
set_option maxRecDepth 100000 in
/-- length -/
theorem kx_length (l : Launch) (D : va_G) {tys : List (ClassId × FieldType)} {cI : ClassId} (hty : tys[0]? = some (cI, .int)) (h0 hd hc hs : Nat) (wr : va_W) (dr ch st : Nat → Int32) (n rc : Nat) (S : Nat → Nat) (hR : cn_S st rc S) (k : Int32) : Met l yX0_length wsX0_length ({ frames := 1, cells := 0, slots := 0, locals := 21 }) (pu_Pc D vwCl (cn_W cI h0 hd hc hs wr dr ch st n rc) tys [.ref h0, .int k]) (vp_Si (fun r => r = sp_length (cn_rows ch S 1 rc) k)) 0 0 (fun _ => False) := by
  refine pu_of (cc := cX0_length) (maxL := 2) (ret := some .int) (own := RX0) (by decide) rfl rfl (Nat.le_of_ble_eq_true rfl) ?_
  intro p e s m below meth c hx hb hr hts hown hlocks hml hP hK ls hl
  have hl : lv_has ls 2 [(0, .ref h0), (1, .int k)] := hl
  refine lv_aload_n hx hb dX0_length_0 rfl (lv_at hl 0 rfl) ?_
  refine lv_iload_n hx hb dX0_length_1 rfl (lv_at hl 1 rfl) ?_
  refine vp_callSi (W.runV (As := [.int k]) (rest := []) ⟨hx, hb, hml, hown, hts⟩ (kx_isRow l D hty h0 hd hc hs wr dr ch st n rc hR.2.2.2.2 k) (cwV 1 hts gX0_length_X0_isRow rfl rfl rfl (by decide +kernel) ⟨Nat.le_of_ble_eq_true rfl, Nat.le_of_ble_eq_true rfl⟩) (pu_preV hK hP 0 rfl rfl) rfl rfl hl.1 rfl (lv_room (Nat.le_of_ble_eq_true rfl)) dX0_length_2 ⟨Nat.zero_le _, Nat.zero_le _⟩) (fun r2 er2 => ?_)
  rcases er2 with ⟨er2, hk_k⟩ | ⟨er2, hk_k⟩
  · subst er2
    obtain ⟨k', h1_k, h2_k, rfl⟩ := hk_k
    have hw_k := cn_row_yes (ch := ch) hR h1_k h2_k
    refine lv_if_eq (tgt := 16) hx hb dX0_length_5 (by decide) (fun c_5 => absurd c_5 (by decide)) (fun c_5 => ?_)
    refine lv_aload_n hx hb dX0_length_8 rfl (lv_at hl 0 rfl) ?_
    refine lv_iload_n hx hb dX0_length_9 rfl (lv_at hl 1 rfl) ?_
    refine vp_callSi (W.runV (As := [.int (nI k')]) (rest := []) ⟨hx, hb, hml, hown, hts⟩ (kx_lengthOf l D hty h0 hd hc hs wr dr ch st n rc S hR k' (by omega) (by omega)) (cwV 1 hts gX0_length_X0_lengthOf rfl rfl rfl (by decide +kernel) ⟨Nat.le_of_ble_eq_true rfl, Nat.le_of_ble_eq_true rfl⟩) (pu_preV hK hP 0 rfl rfl) rfl rfl hl.1 rfl (lv_room (Nat.le_of_ble_eq_true rfl)) dX0_length_10 ⟨Nat.zero_le _, Nat.zero_le _⟩) (fun r10 er10 => ?_)
    subst er10
    refine lv_goto (tgt := 17) hx hb dX0_length_13 (by decide) ?_
    exact pu_iret hx hb hr hlocks (by rw [sp_length, hw_k]; show _ = nI (cn_row ch S k').length; rw [cn_row, sp_len]) dX0_length_17
  · subst er2
    have hw_k := cn_row_no (ch := ch) hR hk_k
    refine lv_if_eq (tgt := 16) hx hb dX0_length_5 (by decide) (fun c_5 => ?_) (fun c_5 => absurd c_5 (not_not_intro (by decide)))
    refine lv_iconst (v := (-1)) hx hb dX0_length_16 (by decide) ?_
    exact pu_iret hx hb hr hlocks (by rw [sp_length, hw_k]) dX0_length_17
set_option maxHeartbeats 4000000 in
set_option maxRecDepth 100000 in
/-- sign -/
theorem kx_sign (l : Launch) (D : va_G) {tys : List (ClassId × FieldType)} {cI : ClassId} (hty : tys[0]? = some (cI, .int)) (h0 hd hc hs : Nat) (wr : va_W) (dr ch st : Nat → Int32) (n rc : Nat) (S : Nat → Nat) (hR : cn_S st rc S) (k i : Int32) : Met l yX0_sign wsX0_sign ({ frames := 1, cells := 0, slots := 0, locals := 21 }) (pu_Pc D vwCl (cn_W cI h0 hd hc hs wr dr ch st n rc) tys [.ref h0, .int k, .int i]) (vp_Si (fun r => r = sp_sign (cn_rows ch S 1 rc) k i)) 0 0 (fun _ => False) := by
  refine pu_of (cc := cX0_sign) (maxL := 3) (ret := some .int) (own := RX0) (by decide) rfl rfl (Nat.le_of_ble_eq_true rfl) ?_
  intro p e s m below meth c hx hb hr hts hown hlocks hml hP hK ls hl
  have hl : lv_has ls 3 [(0, .ref h0), (1, .int k), (2, .int i)] := hl
  have hin0 : ∀ w ∈ u_ws RX0 TX0 5, w ∈ wsX0_sign := by decide +kernel
  have f17 := hts (.fieldLink RX0 17 "NameNumbers" "characters" "[I") (by decide +kernel)
  have f20 := hts (.fieldLink RX0 20 "NameNumbers" "starts" "[I") (by decide +kernel)
  refine lv_aload_n hx hb dX0_sign_0 rfl (lv_at hl 0 rfl) ?_
  refine lv_iload_n hx hb dX0_sign_1 rfl (lv_at hl 1 rfl) ?_
  refine vp_callSi (W.runV (As := [.int k]) (rest := []) ⟨hx, hb, hml, hown, hts⟩ (kx_isRow l D hty h0 hd hc hs wr dr ch st n rc hR.2.2.2.2 k) (cwV 1 hts gX0_sign_X0_isRow rfl rfl rfl (by decide +kernel) ⟨Nat.le_of_ble_eq_true rfl, Nat.le_of_ble_eq_true rfl⟩) (pu_preV hK hP 0 rfl rfl) rfl rfl hl.1 rfl (lv_room (Nat.le_of_ble_eq_true rfl)) dX0_sign_2 ⟨Nat.zero_le _, Nat.zero_le _⟩) (fun r2 er2 => ?_)
  rcases er2 with ⟨er2, hk_k⟩ | ⟨er2, hk_k⟩
  · subst er2
    obtain ⟨k', h1_k, h2_k, rfl⟩ := hk_k
    have hw_k := cn_row_yes (ch := ch) hR h1_k h2_k
    refine lv_if_eq (tgt := 21) hx hb dX0_sign_5 (by decide) (fun c_5 => absurd c_5 (by decide)) (fun c_5 => ?_)
    refine lv_iload_n hx hb dX0_sign_8 rfl (lv_at hl 2 rfl) ?_
    refine lv_if_lt (tgt := 21) hx hb dX0_sign_9 (by decide) (fun c_9 => ?_) (fun c_9 => ?_)
    · refine lv_iconst (v := (-1)) hx hb dX0_sign_21 (by decide) ?_
      exact pu_iret hx hb hr hlocks (by first | (rw [sp_sign, hw_k]; done) | (rw [sp_sign, hw_k]; exact (if_pos c_9).symm) | (rw [sp_sign, hw_k]; exact cn_sg_hi hx31 c_18)) dX0_sign_22
    · obtain ⟨x, hx31, rfl⟩ := nI_of c_9
      refine lv_iload_n hx hb dX0_sign_12 rfl (lv_at hl 2 rfl) ?_
      refine lv_aload_n hx hb dX0_sign_13 rfl (lv_at hl 0 rfl) ?_
      refine lv_iload_n hx hb dX0_sign_14 rfl (lv_at hl 1 rfl) ?_
      refine vp_callSi (W.runV (As := [.int (nI k')]) (rest := [.int (nI x)]) ⟨hx, hb, hml, hown, hts⟩ (kx_lengthOf l D hty h0 hd hc hs wr dr ch st n rc S hR k' (by omega) (by omega)) (cwV 1 hts gX0_sign_X0_lengthOf rfl rfl rfl (by decide +kernel) ⟨Nat.le_of_ble_eq_true rfl, Nat.le_of_ble_eq_true rfl⟩) (pu_preV hK hP 0 rfl rfl) rfl rfl hl.1 rfl (lv_room (Nat.le_of_ble_eq_true rfl)) dX0_sign_15 ⟨Nat.zero_le _, Nat.zero_le _⟩) (fun r15 er15 => ?_)
      subst er15
      refine rn_icmp_lt (tgt := 23) hx hb (by have := cn_top hR (k := k' + 1) (by omega) (by omega); omega) (by have := cn_top hR (k := k' + 1) (by omega) (by omega); omega) dX0_sign_18 (by decide) (fun c_18 => ?_) (fun c_18 => ?_)
      · refine lv_aload_n hx hb dX0_sign_23 rfl (lv_at hl 0 rfl) ?_
        refine va_get (D := D) (ci := 0) (v := .ref hc) (C := RX0) (T := TX0) (N := 5) hx hb hts hin0 hown hK hP 0 rfl rfl 2 (by decide) f17 (fun _ h9 => h9) rfl dX0_sign_24 ?_
        refine lv_aload_n hx hb dX0_sign_27 rfl (lv_at hl 0 rfl) ?_
        refine va_get (D := D) (ci := 0) (v := .ref hs) (C := RX0) (T := TX0) (N := 5) hx hb hts hin0 hown hK hP 0 rfl rfl 3 (by decide) f20 (fun _ h9 => h9) rfl dX0_sign_28 ?_
        refine lv_iload_n hx hb dX0_sign_31 rfl (lv_at hl 1 rfl) ?_
        refine rn_ald (v := nI (S k')) hx hb hK hP 3 0 rfl hty (by have := hR.2.2.2.2; omega) (by decide) (hR.2.1 _ (by omega) (by omega)) dX0_sign_32 ?_
        refine lv_iload_n hx hb dX0_sign_33 rfl (lv_at hl 2 rfl) ?_
        refine rn_iadd hx hb dX0_sign_34 ?_
        refine rn_ald (v := ch (S k' + x)) hx hb hK hP 2 0 rfl hty (by have := cn_top hR (k := k' + 1) (by omega) (by omega); have := hR.2.2.1 k' h1_k h2_k; omega) (by decide) (rfl) dX0_sign_35 ?_
        exact pu_iret hx hb hr hlocks (by rw [sp_sign, hw_k]; exact cn_sg_in hx31 c_18) dX0_sign_36
      · refine lv_iconst (v := (-1)) hx hb dX0_sign_21 (by decide) ?_
        exact pu_iret hx hb hr hlocks (by first | (rw [sp_sign, hw_k]; done) | (rw [sp_sign, hw_k]; exact (if_pos c_9).symm) | (rw [sp_sign, hw_k]; exact cn_sg_hi hx31 c_18)) dX0_sign_22
  · subst er2
    have hw_k := cn_row_no (ch := ch) hR hk_k
    refine lv_if_eq (tgt := 21) hx hb dX0_sign_5 (by decide) (fun c_5 => ?_) (fun c_5 => absurd c_5 (not_not_intro (by decide)))
    refine lv_iconst (v := (-1)) hx hb dX0_sign_21 (by decide) ?_
    exact pu_iret hx hb hr hlocks (by first | (rw [sp_sign, hw_k]; done) | (rw [sp_sign, hw_k]; exact (if_pos c_9).symm) | (rw [sp_sign, hw_k]; exact cn_sg_hi hx31 c_18)) dX0_sign_22
set_option maxHeartbeats 4000000 in
set_option maxRecDepth 100000 in
/-- compare -/
theorem kx_compare (l : Launch) (D : va_G) {tys : List (ClassId × FieldType)} {cI : ClassId} (hty : tys[0]? = some (cI, .int)) (h0 hd hc hs : Nat) (wr : va_W) (dr ch st : Nat → Int32) (n rc : Nat) (S : Nat → Nat) (hR : cn_S st rc S) (a b : Int32) : Met l yX0_compare wsX0_compare ({ frames := 2, cells := 0, slots := 0, locals := 60 }) (pu_Pc D vwCl (cn_W cI h0 hd hc hs wr dr ch st n rc) tys [.ref h0, .int a, .int b]) (vp_Si (fun r => r = sp_compare (cn_rows ch S 1 rc) a b)) 0 0 (fun _ => False) := by
  refine pu_of (cc := cX0_compare) (maxL := 3) (ret := some .int) (own := RX0) (by decide) rfl rfl (Nat.le_of_ble_eq_true rfl) ?_
  intro p e s m below meth c hx hb hr hts hown hlocks hml hP hK ls hl
  have hl : lv_has ls 3 [(0, .ref h0), (1, .int a), (2, .int b)] := hl
  refine lv_aload_n hx hb dX0_compare_0 rfl (lv_at hl 0 rfl) ?_
  refine lv_iload_n hx hb dX0_compare_1 rfl (lv_at hl 1 rfl) ?_
  refine vp_callSi (W.runV (As := [.int a]) (rest := []) ⟨hx, hb, hml, hown, hts⟩ (kx_isRow l D hty h0 hd hc hs wr dr ch st n rc hR.2.2.2.2 a) (cwV 1 hts gX0_compare_X0_isRow rfl rfl rfl (by decide +kernel) ⟨Nat.le_of_ble_eq_true rfl, Nat.le_of_ble_eq_true rfl⟩) (pu_preV hK hP 0 rfl rfl) rfl rfl hl.1 rfl (lv_room (Nat.le_of_ble_eq_true rfl)) dX0_compare_2 ⟨Nat.zero_le _, Nat.zero_le _⟩) (fun r2 er2 => ?_)
  rcases er2 with ⟨er2, hk_a⟩ | ⟨er2, hk_a⟩
  · subst er2
    obtain ⟨a', h1_a, h2_a, rfl⟩ := hk_a
    have hw_a := cn_row_yes (ch := ch) hR h1_a h2_a
    refine lv_if_eq (tgt := 16) hx hb dX0_compare_5 (by decide) (fun c_5 => absurd c_5 (by decide)) (fun c_5 => ?_)
    refine lv_aload_n hx hb dX0_compare_8 rfl (lv_at hl 0 rfl) ?_
    refine lv_iload_n hx hb dX0_compare_9 rfl (lv_at hl 2 rfl) ?_
    refine vp_callSi (W.runV (As := [.int b]) (rest := []) ⟨hx, hb, hml, hown, hts⟩ (kx_isRow l D hty h0 hd hc hs wr dr ch st n rc hR.2.2.2.2 b) (cwV 1 hts gX0_compare_X0_isRow rfl rfl rfl (by decide +kernel) ⟨Nat.le_of_ble_eq_true rfl, Nat.le_of_ble_eq_true rfl⟩) (pu_preV hK hP 0 rfl rfl) rfl rfl hl.1 rfl (lv_room (Nat.le_of_ble_eq_true rfl)) dX0_compare_10 ⟨Nat.zero_le _, Nat.zero_le _⟩) (fun r10 er10 => ?_)
    rcases er10 with ⟨er10, hk_b⟩ | ⟨er10, hk_b⟩
    · subst er10
      obtain ⟨b', h1_b, h2_b, rfl⟩ := hk_b
      have hw_b := cn_row_yes (ch := ch) hR h1_b h2_b
      refine lv_if_ne (tgt := 19) hx hb dX0_compare_13 (by decide) (fun c_13 => ?_) (fun c_13 => absurd c_13 (by decide))
      refine lv_aload_n hx hb dX0_compare_19 rfl (lv_at hl 0 rfl) ?_
      refine lv_iload_n hx hb dX0_compare_20 rfl (lv_at hl 1 rfl) ?_
      refine lv_iload_n hx hb dX0_compare_21 rfl (lv_at hl 2 rfl) ?_
      refine vp_callSi (W.runV (As := [.int (nI a'), .int (nI b')]) (rest := []) ⟨hx, hb, hml, hown, hts⟩ (kx_order l D hty h0 hd hc hs wr dr ch st n rc S hR a' b' h1_a h2_a h1_b h2_b) (cwV 2 hts gX0_compare_X0_order rfl rfl rfl (by decide +kernel) ⟨Nat.le_of_ble_eq_true rfl, Nat.le_of_ble_eq_true rfl⟩) (pu_preV hK hP 0 rfl rfl) rfl rfl hl.1 rfl (lv_room (Nat.le_of_ble_eq_true rfl)) dX0_compare_22 ⟨Nat.zero_le _, Nat.zero_le _⟩) (fun r22 er22 => ?_)
      exact pu_iret hx hb hr hlocks (by rw [sp_compare, hw_a, hw_b, er22]) dX0_compare_25
    · subst er10
      have hw_b := cn_row_no (ch := ch) hR hk_b
      refine lv_if_ne (tgt := 19) hx hb dX0_compare_13 (by decide) (fun c_13 => absurd c_13 (not_not_intro (by decide))) (fun c_13 => ?_)
      refine lv_bipush (v := (-2)) hx hb dX0_compare_16 (by decide) ?_
      exact pu_iret hx hb hr hlocks (by first | (rw [sp_compare, hw_a]; done) | (rw [sp_compare, hw_a, hw_b]; done)) dX0_compare_18
  · subst er2
    have hw_a := cn_row_no (ch := ch) hR hk_a
    refine lv_if_eq (tgt := 16) hx hb dX0_compare_5 (by decide) (fun c_5 => ?_) (fun c_5 => absurd c_5 (not_not_intro (by decide)))
    refine lv_bipush (v := (-2)) hx hb dX0_compare_16 (by decide) ?_
    exact pu_iret hx hb hr hlocks (by first | (rw [sp_compare, hw_a]; done) | (rw [sp_compare, hw_a, hw_b]; done)) dX0_compare_18
set_option maxHeartbeats 4000000 in
set_option maxRecDepth 100000 in
/-- isKnown -/
theorem kx_isKnown (l : Launch) (D : va_G) {tys : List (ClassId × FieldType)} {cI : ClassId} (hty : tys[0]? = some (cI, .int)) (h0 hd hc hs : Nat) (wr : va_W) (dr ch st : Nat → Int32) (n rc : Nat) (S : Nat → Nat) (hR : cn_S st rc S) (hn : n ≤ 2000) : Met l yX0_isKnown wsX0_isKnown ({ frames := 3, cells := 0, slots := 0, locals := 80 }) (pu_Pc D vwCl (cn_W cI h0 hd hc hs wr dr ch st n rc) tys [.ref h0]) (vp_Si (fun r => r = sp_known (cn_rows ch S 1 rc) (sp_sl dr 0 n))) 0 0 (fun _ => False) := by
  refine pu_of (cc := cX0_isKnown) (maxL := 1) (ret := some .boolean) (own := RX0) (by decide) rfl rfl (Nat.le_of_ble_eq_true rfl) ?_
  intro p e s m below meth c hx hb hr hts hown hlocks hml hP hK ls hl
  have hl : lv_has ls 1 [(0, .ref h0)] := hl
  have hin0 : ∀ w ∈ u_ws RX0 TX0 5, w ∈ wsX0_isKnown := by decide +kernel
  have f9 := hts (.fieldLink RX0 9 "NameNumbers" "draft" "[I") (by decide +kernel)
  have f13 := hts (.fieldLink RX0 13 "NameNumbers" "draftLength" "I") (by decide +kernel)
  refine lv_aload_n hx hb dX0_isKnown_0 rfl (lv_at hl 0 rfl) ?_
  refine lv_aload_n hx hb dX0_isKnown_1 rfl (lv_at hl 0 rfl) ?_
  refine va_get (D := D) (ci := 0) (v := .ref hd) (C := RX0) (T := TX0) (N := 5) hx hb hts hin0 hown hK hP 0 rfl rfl 0 (by decide) f9 (fun _ h9 => h9) rfl dX0_isKnown_2 ?_
  refine lv_iconst (v := nI 0) hx hb dX0_isKnown_5 (by decide) ?_
  refine lv_aload_n hx hb dX0_isKnown_6 rfl (lv_at hl 0 rfl) ?_
  refine va_get (D := D) (ci := 0) (v := .int (nI n)) (C := RX0) (T := TX0) (N := 5) hx hb hts hin0 hown hK hP 0 rfl rfl 1 (by decide) f13 (fun _ h9 => h9) rfl dX0_isKnown_7 ?_
  refine vp_callSi (W.runV (As := [.ref hd, .int (nI 0), .int (nI n)]) (rest := []) ⟨hx, hb, hml, hown, hts⟩ (kx_find l D hty h0 hd hc hs wr dr ch st n rc S hR 1 hd 2000 dr rfl (by decide) 0 n (by omega)) (cwV 3 hts gX0_isKnown_X0_find rfl rfl rfl (by decide +kernel) ⟨Nat.le_of_ble_eq_true rfl, Nat.le_of_ble_eq_true rfl⟩) (pu_preV hK hP 0 rfl rfl) rfl rfl hl.1 rfl (lv_room (Nat.le_of_ble_eq_true rfl)) dX0_isKnown_10 ⟨Nat.zero_le _, Nat.zero_le _⟩) (fun r10 er10 => ?_)
  refine lv_iconst (v := (-1)) hx hb dX0_isKnown_13 (by decide) ?_
  refine lv_icmp_eq (tgt := 21) hx hb dX0_isKnown_14 (by decide) (fun c_14 => ?_) (fun c_14 => ?_)
  · refine lv_iconst (v := nI 0) hx hb dX0_isKnown_21 (by decide) ?_
    exact pu_zret hx hb hr hlocks (by decide) (cn_known_0 hR c_14 er10) dX0_isKnown_22
  · refine lv_iconst (v := nI 1) hx hb dX0_isKnown_17 (by decide) ?_
    refine lv_goto (tgt := 22) hx hb dX0_isKnown_18 (by decide) ?_
    exact pu_zret hx hb hr hlocks (by decide) (cn_known_1 c_14 er10) dX0_isKnown_22
end
section
set_option maxHeartbeats 4000000 in
set_option maxRecDepth 100000 in
/-- add -/
theorem kx_add (l : Launch) (D : va_G) {tys : List (ClassId × FieldType)} {cI : ClassId} (hty : tys[0]? = some (cI, .int)) (h0 hd hc hs : Nat) (wr : va_W) (dr ch st : Nat → Int32) (n rc : Nat) (A : Nat → Prop) (S : Nat → Nat) (hR : cn_S st rc S) (qs a N2 : Nat) (f : Nat → Int32) (hq : (cn_W cI h0 hd hc hs wr dr ch st n rc)[qs]? = some (a, .inl (cI, N2, .inl f))) (hN : N2 ≤ 20000) (b0 n2 : Nat) (hb0 : b0 + n2 ≤ N2) (hrc : rc < 3000) (hsp : n2 + S (rc + 1) ≤ 20000) : Met l yX0_add wsX0_add ({ frames := 1, cells := 0, slots := 0, locals := 60 }) (mu_Pc D vwCl (cn_W cI h0 hd hc hs wr dr ch st n rc) tys A [.ref h0, .ref a, .int (nI b0), .int (nI n2)]) (va_Qi (fun r w => r = nI (rc + 1) ∧ w = cn_W cI h0 hd hc hs wr dr (va_cpy f ch b0 (S (rc + 1)) n2) (upd st (rc + 1 + 1) (nI (S (rc + 1) + n2))) n (rc + 1)) (mu_B D vwCl tys A) A) 0 0 A := by
  refine mu_of (cc := cX0_add) (maxL := 5) (ret := some .int) (own := RX0) (by decide) rfl rfl (Nat.le_of_ble_eq_true rfl) ?_
  intro p e s m below meth c hx hb hr hts hown hlocks hml hP hK hD hS ls hl
  have hl : lv_has ls 5 [(0, .ref h0), (1, .ref a), (2, .int (nI b0)), (3, .int (nI n2))] := hl
  have hin0 : ∀ w ∈ u_ws RX0 TX0 5, w ∈ wsX0_add := by decide +kernel
  have f17 := hts (.fieldLink RX0 17 "NameNumbers" "characters" "[I") (by decide +kernel)
  have f20 := hts (.fieldLink RX0 20 "NameNumbers" "starts" "[I") (by decide +kernel)
  have f23 := hts (.fieldLink RX0 23 "NameNumbers" "rowCount" "I") (by decide +kernel)
  have hP : va_P D vwCl (cn_W cI h0 hd hc hs wr dr ch st n rc) s.heap := hP
  refine lv_aload_n hx hb dX0_add_0 rfl (lv_at hl 0 rfl) ?_
  refine va_get (D := D) (ci := 0) (v := .ref hs) (C := RX0) (T := TX0) (N := 5) hx hb hts hin0 hown hK hP 0 rfl rfl 3 (by decide) f20 (fun _ h9 => h9) rfl dX0_add_1 ?_
  refine lv_aload_n hx hb dX0_add_4 rfl (lv_at hl 0 rfl) ?_
  refine va_get (D := D) (ci := 0) (v := .int (nI rc)) (C := RX0) (T := TX0) (N := 5) hx hb hts hin0 hown hK hP 0 rfl rfl 4 (by decide) f23 (fun _ h9 => h9) rfl dX0_add_5 ?_
  refine lv_iconst (v := nI 1) hx hb dX0_add_8 (by decide) ?_
  refine rn_iadd hx hb dX0_add_9 ?_
  refine rn_ald (v := nI (S (rc + 1))) hx hb hK hP 3 0 rfl hty (by omega) (by decide) (hR.2.1 _ (by omega) (by omega)) dX0_add_10 ?_
  refine lv_istore (lv' := [(4, .int (nI (S (rc + 1)))), (0, .ref h0), (1, .ref a), (2, .int (nI b0)), (3, .int (nI n2))]) hx hb dX0_add_11 hl (by decide) rfl (fun ls hl => ?_)
  refine lv_aload_n hx hb dX0_add_13 rfl (lv_at hl 2 rfl) ?_
  refine lv_iload_n hx hb dX0_add_14 rfl (lv_at hl 3 rfl) ?_
  refine lv_aload_n hx hb dX0_add_15 rfl (lv_at hl 1 rfl) ?_
  refine va_get (D := D) (ci := 0) (v := .ref hc) (C := RX0) (T := TX0) (N := 5) hx hb hts hin0 hown hK hP 0 rfl rfl 2 (by decide) f17 (fun _ h9 => h9) rfl dX0_add_16 ?_
  refine lv_iload hx hb dX0_add_19 (lv_at hl 0 rfl) ?_
  refine lv_iload_n hx hb dX0_add_21 rfl (lv_at hl 4 rfl) ?_
  refine rn_copy hx hb (hml.trans hl.1.symm) hown (hts (.methodLink RX0 42 arraycopyName) (by decide +kernel)) (hts (.native arraycopyName) (by decide +kernel)) (hts (.static arraycopyName) (by decide +kernel)) (hts (.initialized "java/lang/System") (by decide +kernel)) hK hP hD hS qs 2 0 0 hq rfl hty hty (by omega) (by omega) (by omega) (by decide) (Nat.le_of_ble_eq_true rfl) (Nat.le_of_ble_eq_true rfl) dX0_add_22 (fun H locs hP hD hS => ?_)
  have hP : va_P D vwCl ((h0, .inr (0, [.ref hd, .int (nI n), .ref hc, .ref hs, .int (nI rc)])) :: (hd, .inl (cI, 2000, .inl dr)) :: (hc, .inl (cI, 20000, .inl (va_cpy f ch b0 (S (rc + 1)) n2))) :: (hs, .inl (cI, 3002, .inl st)) :: wr) H := hP
  have hD : va_D A ((h0, .inr (0, [.ref hd, .int (nI n), .ref hc, .ref hs, .int (nI rc)])) :: (hd, .inl (cI, 2000, .inl dr)) :: (hc, .inl (cI, 20000, .inl (va_cpy f ch b0 (S (rc + 1)) n2))) :: (hs, .inl (cI, 3002, .inl st)) :: wr) := hD
  refine lv_aload_n hx hb dX0_add_25 rfl (lv_at hl 1 rfl) ?_
  refine lv_dup hx hb dX0_add_26 rfl ?_
  refine va_get (D := D) (ci := 0) (v := .int (nI rc)) (C := RX0) (T := TX0) (N := 5) hx hb hts hin0 hown hK hP 0 rfl rfl 4 (by decide) f23 (fun _ h9 => h9) rfl dX0_add_27 ?_
  refine lv_iconst (v := nI 1) hx hb dX0_add_30 (by decide) ?_
  refine rn_iadd hx hb dX0_add_31 ?_
  refine va_put (D := D) (ci := 0) (v := .int (nI (rc + 1))) (ty := .int) (C := RX0) (T := TX0) (N := 5) hx hb hts hin0 tyX0 tyX0_ok nmX0 hown hK hP hD hS 0 rfl rfl 4 (by decide) f23 (fun _ h9 => h9) rfl (by decide +kernel) rfl rfl (Nat.le_of_ble_eq_true rfl) dX0_add_32 (fun H locs hP hD hS => ?_)
  have hP : va_P D vwCl ((h0, .inr (0, [.ref hd, .int (nI n), .ref hc, .ref hs, .int (nI (rc + 1))])) :: (hd, .inl (cI, 2000, .inl dr)) :: (hc, .inl (cI, 20000, .inl (va_cpy f ch b0 (S (rc + 1)) n2))) :: (hs, .inl (cI, 3002, .inl st)) :: wr) H := hP
  have hD : va_D A ((h0, .inr (0, [.ref hd, .int (nI n), .ref hc, .ref hs, .int (nI (rc + 1))])) :: (hd, .inl (cI, 2000, .inl dr)) :: (hc, .inl (cI, 20000, .inl (va_cpy f ch b0 (S (rc + 1)) n2))) :: (hs, .inl (cI, 3002, .inl st)) :: wr) := hD
  refine lv_aload_n hx hb dX0_add_35 rfl (lv_at hl 1 rfl) ?_
  refine va_get (D := D) (ci := 0) (v := .ref hs) (C := RX0) (T := TX0) (N := 5) hx hb hts hin0 hown hK hP 0 rfl rfl 3 (by decide) f20 (fun _ h9 => h9) rfl dX0_add_36 ?_
  refine lv_aload_n hx hb dX0_add_39 rfl (lv_at hl 1 rfl) ?_
  refine va_get (D := D) (ci := 0) (v := .int (nI (rc + 1))) (C := RX0) (T := TX0) (N := 5) hx hb hts hin0 hown hK hP 0 rfl rfl 4 (by decide) f23 (fun _ h9 => h9) rfl dX0_add_40 ?_
  refine lv_iconst (v := nI 1) hx hb dX0_add_43 (by decide) ?_
  refine rn_iadd hx hb dX0_add_44 ?_
  refine lv_iload hx hb dX0_add_45 (lv_at hl 0 rfl) ?_
  refine lv_iload_n hx hb dX0_add_47 rfl (lv_at hl 4 rfl) ?_
  refine rn_iadd hx hb dX0_add_48 ?_
  refine rn_ast hx hb hK hP hD hS 3 0 rfl hty (by omega) (by decide) dX0_add_49 (fun H locs hP hD hS => ?_)
  have hP : va_P D vwCl ((h0, .inr (0, [.ref hd, .int (nI n), .ref hc, .ref hs, .int (nI (rc + 1))])) :: (hd, .inl (cI, 2000, .inl dr)) :: (hc, .inl (cI, 20000, .inl (va_cpy f ch b0 (S (rc + 1)) n2))) :: (hs, .inl (cI, 3002, .inl (upd st (rc + 1 + 1) (nI (S (rc + 1) + n2))))) :: wr) H := hP
  have hD : va_D A ((h0, .inr (0, [.ref hd, .int (nI n), .ref hc, .ref hs, .int (nI (rc + 1))])) :: (hd, .inl (cI, 2000, .inl dr)) :: (hc, .inl (cI, 20000, .inl (va_cpy f ch b0 (S (rc + 1)) n2))) :: (hs, .inl (cI, 3002, .inl (upd st (rc + 1 + 1) (nI (S (rc + 1) + n2))))) :: wr) := hD
  refine lv_aload_n hx hb dX0_add_50 rfl (lv_at hl 1 rfl) ?_
  refine va_get (D := D) (ci := 0) (v := .int (nI (rc + 1))) (C := RX0) (T := TX0) (N := 5) hx hb hts hin0 hown hK hP 0 rfl rfl 4 (by decide) f23 (fun _ h9 => h9) rfl dX0_add_51 ?_
  exact mu_iret hx hb hr hlocks hP hK hD hS (⟨rfl, rfl⟩) dX0_add_54
set_option maxHeartbeats 4000000 in
set_option maxRecDepth 100000 in
/-- numberOf -/
theorem kx_numberOf (l : Launch) (D : va_G) {tys : List (ClassId × FieldType)} {cI : ClassId} (hty : tys[0]? = some (cI, .int)) (h0 hd hc hs : Nat) (wr : va_W) (dr ch st : Nat → Int32) (n rc : Nat) (A : Nat → Prop) (S : Nat → Nat) (hR : cn_S st rc S) (qs a N2 : Nat) (f : Nat → Int32) (hq : (cn_W cI h0 hd hc hs wr dr ch st n rc)[qs]? = some (a, .inl (cI, N2, .inl f))) (hN : N2 ≤ 20000) (b0 n2 : Nat) (hb0 : b0 + n2 ≤ N2) : Met l yX0_numberOf wsX0_numberOf ({ frames := 3, cells := 0, slots := 0, locals := 90 }) (mu_Pc D vwCl (cn_W cI h0 hd hc hs wr dr ch st n rc) tys A [.ref h0, .ref a, .int (nI b0), .int (nI n2)]) (va_Qi (fun r w => ∃ ch' st' rc' S', w = cn_W cI h0 hd hc hs wr dr ch' st' n rc' ∧ cn_S st' rc' S' ∧ sp_numberOf (cn_rows ch S 1 rc) (sp_sl f b0 n2) = (cn_rows ch' S' 1 rc', r)) (mu_B D vwCl tys A) A) 0 0 A := by
  refine mu_of (cc := cX0_numberOf) (maxL := 5) (ret := some .int) (own := RX0) (by decide) rfl rfl (Nat.le_of_ble_eq_true rfl) ?_
  intro p e s m below meth c hx hb hr hts hown hlocks hml hP hK hD hS ls hl
  have hl : lv_has ls 5 [(0, .ref h0), (1, .ref a), (2, .int (nI b0)), (3, .int (nI n2))] := hl
  have hP : va_P D vwCl (cn_W cI h0 hd hc hs wr dr ch st n rc) s.heap := hP
  refine lv_aload_n hx hb dX0_numberOf_0 rfl (lv_at hl 0 rfl) ?_
  refine lv_aload_n hx hb dX0_numberOf_1 rfl (lv_at hl 1 rfl) ?_
  refine lv_iload_n hx hb dX0_numberOf_2 rfl (lv_at hl 2 rfl) ?_
  refine lv_iload_n hx hb dX0_numberOf_3 rfl (lv_at hl 3 rfl) ?_
  refine vp_callSi (W.runV (As := [.ref a, .int (nI b0), .int (nI n2)]) (rest := []) ⟨hx, hb, hml, hown, hts⟩ (kx_find l D hty h0 hd hc hs wr dr ch st n rc S hR qs a N2 f hq hN b0 n2 hb0) (cwV 3 hts gX0_numberOf_X0_find rfl rfl rfl (by decide +kernel) ⟨Nat.le_of_ble_eq_true rfl, Nat.le_of_ble_eq_true rfl⟩) (pu_preV hK hP 0 rfl rfl) rfl rfl hl.1 rfl (lv_room (Nat.le_of_ble_eq_true rfl)) dX0_numberOf_4 ⟨Nat.zero_le _, Nat.zero_le _⟩) (fun r4 er4 => ?_)
  refine lv_istore (lv' := [(4, .int r4), (0, .ref h0), (1, .ref a), (2, .int (nI b0)), (3, .int (nI n2))]) hx hb dX0_numberOf_7 hl (by decide) rfl (fun ls hl => ?_)
  refine lv_iload hx hb dX0_numberOf_9 (lv_at hl 0 rfl) ?_
  refine lv_iconst (v := (-1)) hx hb dX0_numberOf_11 (by decide) ?_
  refine lv_icmp_eq (tgt := 18) hx hb dX0_numberOf_12 (by decide) (fun c_12 => ?_) (fun c_12 => ?_)
  · refine lv_aload_n hx hb dX0_numberOf_18 rfl (lv_at hl 1 rfl) ?_
    refine lv_iload_n hx hb dX0_numberOf_19 rfl (lv_at hl 4 rfl) ?_
    refine vp_callSi (W.runV (As := [.int (nI n2)]) (rest := []) ⟨hx, hb, hml, hown, hts⟩ (kx_hasRoomFor l D hty h0 hd hc hs wr dr ch st n rc S hR n2 (by omega)) (cwV 1 hts gX0_numberOf_X0_hasRoomFor rfl rfl rfl (by decide +kernel) ⟨Nat.le_of_ble_eq_true rfl, Nat.le_of_ble_eq_true rfl⟩) (pu_preV hK hP 0 rfl rfl) rfl rfl hl.1 rfl (lv_room (Nat.le_of_ble_eq_true rfl)) dX0_numberOf_20 ⟨Nat.zero_le _, Nat.zero_le _⟩) (fun r20 er20 => ?_)
    rcases er20 with ⟨er20, hr_1⟩ | ⟨er20, hr_1⟩
    · subst er20
      refine lv_if_eq (tgt := 36) hx hb dX0_numberOf_23 (by decide) (fun c_23 => absurd c_23 (by decide)) (fun c_23 => ?_)
      refine lv_aload_n hx hb dX0_numberOf_26 rfl (lv_at hl 1 rfl) ?_
      refine lv_aload_n hx hb dX0_numberOf_27 rfl (lv_at hl 2 rfl) ?_
      refine lv_iload_n hx hb dX0_numberOf_28 rfl (lv_at hl 3 rfl) ?_
      refine lv_iload_n hx hb dX0_numberOf_29 rfl (lv_at hl 4 rfl) ?_
      refine mu_calli (va_runV (As := [.ref a, .int (nI b0), .int (nI n2)]) (rest := []) ⟨hx, hb, hml, hown, hts⟩ (kx_add l D hty h0 hd hc hs wr dr ch st n rc A S hR qs a N2 f hq hN b0 n2 hb0 hr_1.1 hr_1.2) (cwV 3 hts gX0_numberOf_X0_add rfl rfl rfl (by decide +kernel) ⟨Nat.le_of_ble_eq_true rfl, Nat.le_of_ble_eq_true rfl⟩) (mu_preV hK hP hD 0 rfl rfl) rfl rfl hl.1 rfl (lv_room (Nat.le_of_ble_eq_true rfl)) dX0_numberOf_30 ⟨Nat.zero_le _, Nat.zero_le _⟩) hS (fun r30 w_30 H locs er30 hP hD hS => ?_)
      obtain ⟨rfl, rfl⟩ := er30
      refine lv_goto (tgt := 37) hx hb dX0_numberOf_33 (by decide) ?_
      exact mu_iret hx hb hr hlocks hP hK hD hS (⟨_, _, _, _, rfl, cn_S_add hR hr_1.1 hr_1.2, cn_nb_new hR (by rw [← er4]; exact c_12) hr_1.1 hr_1.2⟩) dX0_numberOf_37
    · subst er20
      refine lv_if_eq (tgt := 36) hx hb dX0_numberOf_23 (by decide) (fun c_23 => ?_) (fun c_23 => absurd c_23 (not_not_intro (by decide)))
      refine lv_iconst (v := (-1)) hx hb dX0_numberOf_36 (by decide) ?_
      exact mu_iret hx hb hr hlocks hP hK hD hS (⟨ch, st, rc, S, rfl, hR, cn_nb_full hR (by rw [← er4]; exact c_12) hr_1⟩) dX0_numberOf_37
  · refine lv_iload hx hb dX0_numberOf_15 (lv_at hl 0 rfl) ?_
    exact mu_iret hx hb hr hlocks hP hK hD hS (⟨ch, st, rc, S, rfl, hR, cn_nb_old er4 c_12⟩) dX0_numberOf_17
end
section
theorem cn_tk_some {rows : List (List Int32)} {d r : List Int32} {k : Int32} (h : sp_row rows k = some r) : sp_take_ rows d k = if 2000 < d.length + r.length then (d, -1) else (d ++ r, nI (d.length + r.length)) := by
  unfold sp_take_
  rw [h]
theorem cn_pt_some {rows : List (List Int32)} {r : List Int32} {k i n : Int32} (h : sp_row rows k = some r) : sp_part rows k i n = if i < 0 ∨ nI r.length < i ∨ n < 0 ∨ nI (r.length - i.toNatClampNeg) < n then (rows, -1) else sp_numberOf rows ((r.drop i.toNatClampNeg).take n.toNatClampNeg) := by
  unfold sp_part
  rw [h]
end
section
/-- the class's cells w hold the draft d and the rows -/
def cn_Ok (cI : ClassId) (h0 hd hc hs : Nat) (wr : va_W) (d : List Int32) (rows : List (List Int32)) (w : va_W) : Prop := ∃ (dr ch st : Nat → Int32) (n rc : Nat) (S : Nat → Nat), w = cn_W cI h0 hd hc hs wr dr ch st n rc ∧ n ≤ 2000 ∧ cn_S st rc S ∧ d = sp_sl dr 0 n ∧ rows = cn_rows ch S 1 rc
set_option maxHeartbeats 4000000 in
set_option maxRecDepth 100000 in
/-- cut -/
theorem kx_cut (l : Launch) (D : va_G) {tys : List (ClassId × FieldType)} {cI : ClassId} (hty : tys[0]? = some (cI, .int)) (h0 hd hc hs : Nat) (wr : va_W) (dr ch st : Nat → Int32) (n rc : Nat) (A : Nat → Prop) (S : Nat → Nat) (hR : cn_S st rc S) (hn : n ≤ 2000) (k : Int32) : Met l yX0_cut wsX0_cut ({ frames := 0, cells := 0, slots := 0, locals := 0 }) (mu_Pc D vwCl (cn_W cI h0 hd hc hs wr dr ch st n rc) tys A [.ref h0, .int k]) (va_Qi (fun r w => cn_Ok cI h0 hd hc hs wr (sp_cut (sp_sl dr 0 n) k).1 (cn_rows ch S 1 rc) w ∧ r = (sp_cut (sp_sl dr 0 n) k).2) (mu_B D vwCl tys A) A) 0 0 A := by
  refine mu_of (cc := cX0_cut) (maxL := 3) (ret := some .int) (own := RX0) (by decide) rfl rfl (Nat.le_of_ble_eq_true rfl) ?_
  intro p e s m below meth c hx hb hr hts hown hlocks hml hP hK hD hS ls hl
  have hl : lv_has ls 3 [(0, .ref h0), (1, .int k)] := hl
  have hin0 : ∀ w ∈ u_ws RX0 TX0 5, w ∈ wsX0_cut := by decide +kernel
  have f13 := hts (.fieldLink RX0 13 "NameNumbers" "draftLength" "I") (by decide +kernel)
  have hP : va_P D vwCl (cn_W cI h0 hd hc hs wr dr ch st n rc) s.heap := hP
  refine lv_iload_n hx hb dX0_cut_0 rfl (lv_at hl 1 rfl) ?_
  refine lv_if_lt (tgt := 12) hx hb dX0_cut_1 (by decide) (fun c_1 => ?_) (fun c_1 => ?_)
  · refine lv_iconst (v := (-1)) hx hb dX0_cut_12 (by decide) ?_
    exact mu_iret hx hb hr hlocks hP hK hD hS (by rw [cn_cut_no (by first | exact Or.inl c_1 | (right; rw [sp_len]; exact nI_lt c_9 hx31))]; exact ⟨⟨dr, ch, st, n, rc, S, rfl, hn, hR, rfl, rfl⟩, rfl⟩) dX0_cut_13
  · obtain ⟨x, hx31, rfl⟩ := nI_of c_1
    refine lv_iload_n hx hb dX0_cut_4 rfl (lv_at hl 1 rfl) ?_
    refine lv_aload_n hx hb dX0_cut_5 rfl (lv_at hl 0 rfl) ?_
    refine va_get (D := D) (ci := 0) (v := .int (nI n)) (C := RX0) (T := TX0) (N := 5) hx hb hts hin0 hown hK hP 0 rfl rfl 1 (by decide) f13 (fun _ h9 => h9) rfl dX0_cut_6 ?_
    refine rn_icmp_le (tgt := 14) hx hb (by omega) (by omega) dX0_cut_9 (by decide) (fun c_9 => ?_) (fun c_9 => ?_)
    · refine lv_aload_n hx hb dX0_cut_14 rfl (lv_at hl 0 rfl) ?_
      refine va_get (D := D) (ci := 0) (v := .int (nI n)) (C := RX0) (T := TX0) (N := 5) hx hb hts hin0 hown hK hP 0 rfl rfl 1 (by decide) f13 (fun _ h9 => h9) rfl dX0_cut_15 ?_
      refine lv_istore_n (lv' := [(2, .int (nI n)), (0, .ref h0), (1, .int (nI x))]) hx hb dX0_cut_18 rfl hl (by decide) rfl (fun ls hl => ?_)
      refine lv_aload_n hx hb dX0_cut_19 rfl (lv_at hl 1 rfl) ?_
      refine lv_iload_n hx hb dX0_cut_20 rfl (lv_at hl 2 rfl) ?_
      refine va_put (D := D) (ci := 0) (v := .int (nI x)) (ty := .int) (C := RX0) (T := TX0) (N := 5) hx hb hts hin0 tyX0 tyX0_ok nmX0 hown hK hP hD hS 0 rfl rfl 1 (by decide) f13 (fun _ h9 => h9) rfl (by decide +kernel) rfl rfl (Nat.le_of_ble_eq_true rfl) dX0_cut_21 (fun H locs hP hD hS => ?_)
      have hP : va_P D vwCl ((h0, .inr (0, [.ref hd, .int (nI x), .ref hc, .ref hs, .int (nI rc)])) :: (hd, .inl (cI, 2000, .inl dr)) :: (hc, .inl (cI, 20000, .inl ch)) :: (hs, .inl (cI, 3002, .inl st)) :: wr) H := hP
      have hD : va_D A ((h0, .inr (0, [.ref hd, .int (nI x), .ref hc, .ref hs, .int (nI rc)])) :: (hd, .inl (cI, 2000, .inl dr)) :: (hc, .inl (cI, 20000, .inl ch)) :: (hs, .inl (cI, 3002, .inl st)) :: wr) := hD
      refine lv_iload_n hx hb dX0_cut_24 rfl (lv_at hl 0 rfl) ?_
      exact mu_iret hx hb hr hlocks hP hK hD hS (by rw [cn_cut_yes (by rw [sp_len]; exact c_9) (by rw [sp_len]; omega), sp_take _ _ _ _ c_9, sp_len]; exact ⟨⟨dr, ch, st, x, rc, S, rfl, by omega, hR, rfl, rfl⟩, rfl⟩) dX0_cut_25
    · refine lv_iconst (v := (-1)) hx hb dX0_cut_12 (by decide) ?_
      exact mu_iret hx hb hr hlocks hP hK hD hS (by rw [cn_cut_no (by first | exact Or.inl c_1 | (right; rw [sp_len]; exact nI_lt c_9 hx31))]; exact ⟨⟨dr, ch, st, n, rc, S, rfl, hn, hR, rfl, rfl⟩, rfl⟩) dX0_cut_13
set_option maxHeartbeats 4000000 in
set_option maxRecDepth 100000 in
/-- clear -/
theorem kx_clear (l : Launch) (D : va_G) {tys : List (ClassId × FieldType)} {cI : ClassId} (hty : tys[0]? = some (cI, .int)) (h0 hd hc hs : Nat) (wr : va_W) (dr ch st : Nat → Int32) (n rc : Nat) (A : Nat → Prop) (S : Nat → Nat) (hR : cn_S st rc S) (hn : n ≤ 2000) : Met l yX0_clear wsX0_clear ({ frames := 0, cells := 0, slots := 0, locals := 0 }) (mu_Pc D vwCl (cn_W cI h0 hd hc hs wr dr ch st n rc) tys A [.ref h0]) (va_Qi (fun r w => cn_Ok cI h0 hd hc hs wr (sp_sl dr 0 n) [] w ∧ r = nI (cn_rows ch S 1 rc).length) (mu_B D vwCl tys A) A) 0 0 A := by
  refine mu_of (cc := cX0_clear) (maxL := 2) (ret := some .int) (own := RX0) (by decide) rfl rfl (Nat.le_of_ble_eq_true rfl) ?_
  intro p e s m below meth c hx hb hr hts hown hlocks hml hP hK hD hS ls hl
  have hl : lv_has ls 2 [(0, .ref h0)] := hl
  have hin0 : ∀ w ∈ u_ws RX0 TX0 5, w ∈ wsX0_clear := by decide +kernel
  have f23 := hts (.fieldLink RX0 23 "NameNumbers" "rowCount" "I") (by decide +kernel)
  have hP : va_P D vwCl (cn_W cI h0 hd hc hs wr dr ch st n rc) s.heap := hP
  refine lv_aload_n hx hb dX0_clear_0 rfl (lv_at hl 0 rfl) ?_
  refine va_get (D := D) (ci := 0) (v := .int (nI rc)) (C := RX0) (T := TX0) (N := 5) hx hb hts hin0 hown hK hP 0 rfl rfl 4 (by decide) f23 (fun _ h9 => h9) rfl dX0_clear_1 ?_
  refine lv_istore_n (lv' := [(1, .int (nI rc)), (0, .ref h0)]) hx hb dX0_clear_4 rfl hl (by decide) rfl (fun ls hl => ?_)
  refine lv_aload_n hx hb dX0_clear_5 rfl (lv_at hl 1 rfl) ?_
  refine lv_iconst (v := nI 0) hx hb dX0_clear_6 (by decide) ?_
  refine va_put (D := D) (ci := 0) (v := .int (nI 0)) (ty := .int) (C := RX0) (T := TX0) (N := 5) hx hb hts hin0 tyX0 tyX0_ok nmX0 hown hK hP hD hS 0 rfl rfl 4 (by decide) f23 (fun _ h9 => h9) rfl (by decide +kernel) rfl rfl (Nat.le_of_ble_eq_true rfl) dX0_clear_7 (fun H locs hP hD hS => ?_)
  have hP : va_P D vwCl ((h0, .inr (0, [.ref hd, .int (nI n), .ref hc, .ref hs, .int (nI 0)])) :: (hd, .inl (cI, 2000, .inl dr)) :: (hc, .inl (cI, 20000, .inl ch)) :: (hs, .inl (cI, 3002, .inl st)) :: wr) H := hP
  have hD : va_D A ((h0, .inr (0, [.ref hd, .int (nI n), .ref hc, .ref hs, .int (nI 0)])) :: (hd, .inl (cI, 2000, .inl dr)) :: (hc, .inl (cI, 20000, .inl ch)) :: (hs, .inl (cI, 3002, .inl st)) :: wr) := hD
  refine lv_iload_n hx hb dX0_clear_10 rfl (lv_at hl 0 rfl) ?_
  exact mu_iret hx hb hr hlocks hP hK hD hS (⟨⟨dr, ch, st, n, 0, S, rfl, hn, cn_S_0 hR, rfl, rfl⟩, by rw [cn_rows_len]⟩) dX0_clear_11
set_option maxHeartbeats 4000000 in
set_option maxRecDepth 100000 in
/-- number -/
theorem kx_number (l : Launch) (D : va_G) {tys : List (ClassId × FieldType)} {cI : ClassId} (hty : tys[0]? = some (cI, .int)) (h0 hd hc hs : Nat) (wr : va_W) (dr ch st : Nat → Int32) (n rc : Nat) (A : Nat → Prop) (S : Nat → Nat) (hR : cn_S st rc S) (hn : n ≤ 2000) : Met l yX0_number wsX0_number ({ frames := 4, cells := 0, slots := 0, locals := 120 }) (mu_Pc D vwCl (cn_W cI h0 hd hc hs wr dr ch st n rc) tys A [.ref h0]) (va_Qi (fun r w => cn_Ok cI h0 hd hc hs wr (if r = -1 then (sp_sl dr 0 n) else []) (sp_numberOf (cn_rows ch S 1 rc) (sp_sl dr 0 n)).1 w ∧ r = (sp_numberOf (cn_rows ch S 1 rc) (sp_sl dr 0 n)).2) (mu_B D vwCl tys A) A) 0 0 A := by
  refine mu_of (cc := cX0_number) (maxL := 2) (ret := some .int) (own := RX0) (by decide) rfl rfl (Nat.le_of_ble_eq_true rfl) ?_
  intro p e s m below meth c hx hb hr hts hown hlocks hml hP hK hD hS ls hl
  have hl : lv_has ls 2 [(0, .ref h0)] := hl
  have hin0 : ∀ w ∈ u_ws RX0 TX0 5, w ∈ wsX0_number := by decide +kernel
  have f9 := hts (.fieldLink RX0 9 "NameNumbers" "draft" "[I") (by decide +kernel)
  have f13 := hts (.fieldLink RX0 13 "NameNumbers" "draftLength" "I") (by decide +kernel)
  have hP : va_P D vwCl (cn_W cI h0 hd hc hs wr dr ch st n rc) s.heap := hP
  refine lv_aload_n hx hb dX0_number_0 rfl (lv_at hl 0 rfl) ?_
  refine lv_aload_n hx hb dX0_number_1 rfl (lv_at hl 0 rfl) ?_
  refine va_get (D := D) (ci := 0) (v := .ref hd) (C := RX0) (T := TX0) (N := 5) hx hb hts hin0 hown hK hP 0 rfl rfl 0 (by decide) f9 (fun _ h9 => h9) rfl dX0_number_2 ?_
  refine lv_iconst (v := nI 0) hx hb dX0_number_5 (by decide) ?_
  refine lv_aload_n hx hb dX0_number_6 rfl (lv_at hl 0 rfl) ?_
  refine va_get (D := D) (ci := 0) (v := .int (nI n)) (C := RX0) (T := TX0) (N := 5) hx hb hts hin0 hown hK hP 0 rfl rfl 1 (by decide) f13 (fun _ h9 => h9) rfl dX0_number_7 ?_
  refine mu_calli (va_runV (As := [.ref hd, .int (nI 0), .int (nI n)]) (rest := []) ⟨hx, hb, hml, hown, hts⟩ (kx_numberOf l D hty h0 hd hc hs wr dr ch st n rc A S hR 1 hd 2000 dr rfl (by decide) 0 n (by omega)) (cwV 3 hts gX0_number_X0_numberOf rfl rfl rfl (by decide +kernel) ⟨Nat.le_of_ble_eq_true rfl, Nat.le_of_ble_eq_true rfl⟩) (mu_preV hK hP hD 0 rfl rfl) rfl rfl hl.1 rfl (lv_room (Nat.le_of_ble_eq_true rfl)) dX0_number_10 ⟨Nat.zero_le _, Nat.zero_le _⟩) hS (fun r10 w_10 H locs er10 hP hD hS => ?_)
  obtain ⟨ch', st', rc', S', rfl, hR', hsp⟩ := er10
  refine lv_istore_n (lv' := [(1, .int r10), (0, .ref h0)]) hx hb dX0_number_13 rfl hl (by decide) rfl (fun ls hl => ?_)
  refine lv_iload_n hx hb dX0_number_14 rfl (lv_at hl 0 rfl) ?_
  refine lv_iconst (v := (-1)) hx hb dX0_number_15 (by decide) ?_
  refine lv_icmp_eq (tgt := 24) hx hb dX0_number_16 (by decide) (fun c_16 => ?_) (fun c_16 => ?_)
  · refine lv_iload_n hx hb dX0_number_24 rfl (lv_at hl 0 rfl) ?_
    exact mu_iret hx hb hr hlocks hP hK hD hS (by rw [hsp]; first | exact ⟨⟨dr, ch', st', n, rc', S', rfl, hn, hR', if_pos c_16, rfl⟩, rfl⟩ | exact ⟨⟨dr, ch', st', 0, rc', S', rfl, Nat.zero_le _, hR', if_neg c_16, rfl⟩, rfl⟩) dX0_number_25
  · refine lv_aload_n hx hb dX0_number_19 rfl (lv_at hl 1 rfl) ?_
    refine lv_iconst (v := nI 0) hx hb dX0_number_20 (by decide) ?_
    refine va_put (D := D) (ci := 0) (v := .int (nI 0)) (ty := .int) (C := RX0) (T := TX0) (N := 5) hx hb hts hin0 tyX0 tyX0_ok nmX0 hown hK hP hD hS 0 rfl rfl 1 (by decide) f13 (fun _ h9 => h9) rfl (by decide +kernel) rfl rfl (Nat.le_of_ble_eq_true rfl) dX0_number_21 (fun H locs hP hD hS => ?_)
    have hP : va_P D vwCl ((h0, .inr (0, [.ref hd, .int (nI 0), .ref hc, .ref hs, .int (nI rc')])) :: (hd, .inl (cI, 2000, .inl dr)) :: (hc, .inl (cI, 20000, .inl ch')) :: (hs, .inl (cI, 3002, .inl st')) :: wr) H := hP
    have hD : va_D A ((h0, .inr (0, [.ref hd, .int (nI 0), .ref hc, .ref hs, .int (nI rc')])) :: (hd, .inl (cI, 2000, .inl dr)) :: (hc, .inl (cI, 20000, .inl ch')) :: (hs, .inl (cI, 3002, .inl st')) :: wr) := hD
    refine lv_iload_n hx hb dX0_number_24 rfl (lv_at hl 0 rfl) ?_
    exact mu_iret hx hb hr hlocks hP hK hD hS (by rw [hsp]; first | exact ⟨⟨dr, ch', st', n, rc', S', rfl, hn, hR', if_pos c_16, rfl⟩, rfl⟩ | exact ⟨⟨dr, ch', st', 0, rc', S', rfl, Nat.zero_le _, hR', if_neg c_16, rfl⟩, rfl⟩) dX0_number_25
set_option maxHeartbeats 4000000 in
set_option maxRecDepth 100000 in
/-- take -/
theorem kx_take (l : Launch) (D : va_G) {tys : List (ClassId × FieldType)} {cI : ClassId} (hty : tys[0]? = some (cI, .int)) (h0 hd hc hs : Nat) (wr : va_W) (dr ch st : Nat → Int32) (n rc : Nat) (A : Nat → Prop) (S : Nat → Nat) (hR : cn_S st rc S) (hn : n ≤ 2000) (k : Int32) : Met l yX0_take wsX0_take ({ frames := 1, cells := 0, slots := 0, locals := 60 }) (mu_Pc D vwCl (cn_W cI h0 hd hc hs wr dr ch st n rc) tys A [.ref h0, .int k]) (va_Qi (fun r w => cn_Ok cI h0 hd hc hs wr (sp_take_ (cn_rows ch S 1 rc) (sp_sl dr 0 n) k).1 (cn_rows ch S 1 rc) w ∧ r = (sp_take_ (cn_rows ch S 1 rc) (sp_sl dr 0 n) k).2) (mu_B D vwCl tys A) A) 0 0 A := by
  refine mu_of (cc := cX0_take) (maxL := 3) (ret := some .int) (own := RX0) (by decide) rfl rfl (Nat.le_of_ble_eq_true rfl) ?_
  intro p e s m below meth c hx hb hr hts hown hlocks hml hP hK hD hS ls hl
  have hl : lv_has ls 3 [(0, .ref h0), (1, .int k)] := hl
  have hin0 : ∀ w ∈ u_ws RX0 TX0 5, w ∈ wsX0_take := by decide +kernel
  have f9 := hts (.fieldLink RX0 9 "NameNumbers" "draft" "[I") (by decide +kernel)
  have f13 := hts (.fieldLink RX0 13 "NameNumbers" "draftLength" "I") (by decide +kernel)
  have f17 := hts (.fieldLink RX0 17 "NameNumbers" "characters" "[I") (by decide +kernel)
  have f20 := hts (.fieldLink RX0 20 "NameNumbers" "starts" "[I") (by decide +kernel)
  have hP : va_P D vwCl (cn_W cI h0 hd hc hs wr dr ch st n rc) s.heap := hP
  refine lv_aload_n hx hb dX0_take_0 rfl (lv_at hl 0 rfl) ?_
  refine lv_iload_n hx hb dX0_take_1 rfl (lv_at hl 1 rfl) ?_
  refine vp_callSi (W.runV (As := [.int k]) (rest := []) ⟨hx, hb, hml, hown, hts⟩ (kx_isRow l D hty h0 hd hc hs wr dr ch st n rc hR.2.2.2.2 k) (cwV 1 hts gX0_take_X0_isRow rfl rfl rfl (by decide +kernel) ⟨Nat.le_of_ble_eq_true rfl, Nat.le_of_ble_eq_true rfl⟩) (pu_preV hK hP 0 rfl rfl) rfl rfl hl.1 rfl (lv_room (Nat.le_of_ble_eq_true rfl)) dX0_take_2 ⟨Nat.zero_le _, Nat.zero_le _⟩) (fun r2 er2 => ?_)
  rcases er2 with ⟨er2, hk_k⟩ | ⟨er2, hk_k⟩
  · subst er2
    obtain ⟨k', h1_k, h2_k, rfl⟩ := hk_k
    have hw_k := cn_row_yes (ch := ch) hR h1_k h2_k
    refine lv_if_ne (tgt := 10) hx hb dX0_take_5 (by decide) (fun c_5 => ?_) (fun c_5 => absurd c_5 (by decide))
    refine lv_aload_n hx hb dX0_take_10 rfl (lv_at hl 0 rfl) ?_
    refine lv_iload_n hx hb dX0_take_11 rfl (lv_at hl 1 rfl) ?_
    refine vp_callSi (W.runV (As := [.int (nI k')]) (rest := []) ⟨hx, hb, hml, hown, hts⟩ (kx_lengthOf l D hty h0 hd hc hs wr dr ch st n rc S hR k' (by omega) (by omega)) (cwV 1 hts gX0_take_X0_lengthOf rfl rfl rfl (by decide +kernel) ⟨Nat.le_of_ble_eq_true rfl, Nat.le_of_ble_eq_true rfl⟩) (pu_preV hK hP 0 rfl rfl) rfl rfl hl.1 rfl (lv_room (Nat.le_of_ble_eq_true rfl)) dX0_take_12 ⟨Nat.zero_le _, Nat.zero_le _⟩) (fun r12 er12 => ?_)
    subst er12
    refine lv_istore_n (lv' := [(2, .int (nI (S (k' + 1) - S k'))), (0, .ref h0), (1, .int (nI k'))]) hx hb dX0_take_15 rfl hl (by decide) rfl (fun ls hl => ?_)
    refine lv_iload_n hx hb dX0_take_16 rfl (lv_at hl 0 rfl) ?_
    refine lv_sipush (v := nI 2000) hx hb dX0_take_17 (by decide) ?_
    refine lv_aload_n hx hb dX0_take_20 rfl (lv_at hl 1 rfl) ?_
    refine va_get (D := D) (ci := 0) (v := .int (nI n)) (C := RX0) (T := TX0) (N := 5) hx hb hts hin0 hown hK hP 0 rfl rfl 1 (by decide) f13 (fun _ h9 => h9) rfl dX0_take_21 ?_
    refine rn_isub hx hb (by omega) dX0_take_24 ?_
    refine rn_icmp_le (tgt := 30) hx hb (by have := cn_top hR (k := k' + 1) (by omega) (by omega); omega) (by have := cn_top hR (k := k' + 1) (by omega) (by omega); omega) dX0_take_25 (by decide) (fun c_25 => ?_) (fun c_25 => ?_)
    · refine lv_aload_n hx hb dX0_take_30 rfl (lv_at hl 1 rfl) ?_
      refine va_get (D := D) (ci := 0) (v := .ref hc) (C := RX0) (T := TX0) (N := 5) hx hb hts hin0 hown hK hP 0 rfl rfl 2 (by decide) f17 (fun _ h9 => h9) rfl dX0_take_31 ?_
      refine lv_aload_n hx hb dX0_take_34 rfl (lv_at hl 1 rfl) ?_
      refine va_get (D := D) (ci := 0) (v := .ref hs) (C := RX0) (T := TX0) (N := 5) hx hb hts hin0 hown hK hP 0 rfl rfl 3 (by decide) f20 (fun _ h9 => h9) rfl dX0_take_35 ?_
      refine lv_iload_n hx hb dX0_take_38 rfl (lv_at hl 2 rfl) ?_
      refine rn_ald (v := nI (S k')) hx hb hK hP 3 0 rfl hty (by have := hR.2.2.2.2; omega) (by decide) (hR.2.1 _ (by omega) (by omega)) dX0_take_39 ?_
      refine lv_aload_n hx hb dX0_take_40 rfl (lv_at hl 1 rfl) ?_
      refine va_get (D := D) (ci := 0) (v := .ref hd) (C := RX0) (T := TX0) (N := 5) hx hb hts hin0 hown hK hP 0 rfl rfl 0 (by decide) f9 (fun _ h9 => h9) rfl dX0_take_41 ?_
      refine lv_aload_n hx hb dX0_take_44 rfl (lv_at hl 1 rfl) ?_
      refine va_get (D := D) (ci := 0) (v := .int (nI n)) (C := RX0) (T := TX0) (N := 5) hx hb hts hin0 hown hK hP 0 rfl rfl 1 (by decide) f13 (fun _ h9 => h9) rfl dX0_take_45 ?_
      refine lv_iload_n hx hb dX0_take_48 rfl (lv_at hl 0 rfl) ?_
      refine rn_copy hx hb (hml.trans hl.1.symm) hown (hts (.methodLink RX0 42 arraycopyName) (by decide +kernel)) (hts (.native arraycopyName) (by decide +kernel)) (hts (.static arraycopyName) (by decide +kernel)) (hts (.initialized "java/lang/System") (by decide +kernel)) hK hP hD hS 2 1 0 0 rfl rfl hty hty (by have := cn_top hR (k := k' + 1) (by omega) (by omega); have := hR.2.2.1 k' h1_k h2_k; omega) (by omega) (by decide) (by decide) (Nat.le_of_ble_eq_true rfl) (Nat.le_of_ble_eq_true rfl) dX0_take_49 (fun H locs hP hD hS => ?_)
      have hP : va_P D vwCl ((h0, .inr (0, [.ref hd, .int (nI n), .ref hc, .ref hs, .int (nI rc)])) :: (hd, .inl (cI, 2000, .inl (va_cpy ch dr (S k') n (S (k' + 1) - S k')))) :: (hc, .inl (cI, 20000, .inl ch)) :: (hs, .inl (cI, 3002, .inl st)) :: wr) H := hP
      have hD : va_D A ((h0, .inr (0, [.ref hd, .int (nI n), .ref hc, .ref hs, .int (nI rc)])) :: (hd, .inl (cI, 2000, .inl (va_cpy ch dr (S k') n (S (k' + 1) - S k')))) :: (hc, .inl (cI, 20000, .inl ch)) :: (hs, .inl (cI, 3002, .inl st)) :: wr) := hD
      refine lv_aload_n hx hb dX0_take_52 rfl (lv_at hl 1 rfl) ?_
      refine lv_dup hx hb dX0_take_53 rfl ?_
      refine va_get (D := D) (ci := 0) (v := .int (nI n)) (C := RX0) (T := TX0) (N := 5) hx hb hts hin0 hown hK hP 0 rfl rfl 1 (by decide) f13 (fun _ h9 => h9) rfl dX0_take_54 ?_
      refine lv_iload_n hx hb dX0_take_57 rfl (lv_at hl 0 rfl) ?_
      refine rn_iadd hx hb dX0_take_58 ?_
      refine va_put (D := D) (ci := 0) (v := .int (nI (n + (S (k' + 1) - S k')))) (ty := .int) (C := RX0) (T := TX0) (N := 5) hx hb hts hin0 tyX0 tyX0_ok nmX0 hown hK hP hD hS 0 rfl rfl 1 (by decide) f13 (fun _ h9 => h9) rfl (by decide +kernel) rfl rfl (Nat.le_of_ble_eq_true rfl) dX0_take_59 (fun H locs hP hD hS => ?_)
      have hP : va_P D vwCl ((h0, .inr (0, [.ref hd, .int (nI (n + (S (k' + 1) - S k'))), .ref hc, .ref hs, .int (nI rc)])) :: (hd, .inl (cI, 2000, .inl (va_cpy ch dr (S k') n (S (k' + 1) - S k')))) :: (hc, .inl (cI, 20000, .inl ch)) :: (hs, .inl (cI, 3002, .inl st)) :: wr) H := hP
      have hD : va_D A ((h0, .inr (0, [.ref hd, .int (nI (n + (S (k' + 1) - S k'))), .ref hc, .ref hs, .int (nI rc)])) :: (hd, .inl (cI, 2000, .inl (va_cpy ch dr (S k') n (S (k' + 1) - S k')))) :: (hc, .inl (cI, 20000, .inl ch)) :: (hs, .inl (cI, 3002, .inl st)) :: wr) := hD
      refine lv_aload_n hx hb dX0_take_62 rfl (lv_at hl 1 rfl) ?_
      refine va_get (D := D) (ci := 0) (v := .int (nI (n + (S (k' + 1) - S k')))) (C := RX0) (T := TX0) (N := 5) hx hb hts hin0 hown hK hP 0 rfl rfl 1 (by decide) f13 (fun _ h9 => h9) rfl dX0_take_63 ?_
      exact mu_iret hx hb hr hlocks hP hK hD hS (by rw [cn_tk_some hw_k, if_neg (by rw [sp_len, cn_row, sp_len]; omega)]; exact ⟨⟨_, ch, st, n + (S (k' + 1) - S k'), rc, S, rfl, by omega, hR, cn_tk, rfl⟩, by rw [sp_len, cn_row, sp_len]⟩) dX0_take_66
    · refine lv_iconst (v := (-1)) hx hb dX0_take_28 (by decide) ?_
      exact mu_iret hx hb hr hlocks hP hK hD hS (by rw [cn_tk_some hw_k, if_pos (by rw [sp_len, cn_row, sp_len]; omega)]; exact ⟨⟨dr, ch, st, n, rc, S, rfl, hn, hR, rfl, rfl⟩, rfl⟩) dX0_take_29
  · subst er2
    have hw_k := cn_row_no (ch := ch) hR hk_k
    refine lv_if_ne (tgt := 10) hx hb dX0_take_5 (by decide) (fun c_5 => absurd c_5 (not_not_intro (by decide))) (fun c_5 => ?_)
    refine lv_iconst (v := (-1)) hx hb dX0_take_8 (by decide) ?_
    exact mu_iret hx hb hr hlocks hP hK hD hS (by rw [sp_take_, hw_k]; exact ⟨⟨dr, ch, st, n, rc, S, rfl, hn, hR, rfl, rfl⟩, rfl⟩) dX0_take_9
set_option maxHeartbeats 4000000 in
set_option maxRecDepth 100000 in
/-- part -/
theorem kx_part (l : Launch) (D : va_G) {tys : List (ClassId × FieldType)} {cI : ClassId} (hty : tys[0]? = some (cI, .int)) (h0 hd hc hs : Nat) (wr : va_W) (dr ch st : Nat → Int32) (n rc : Nat) (A : Nat → Prop) (S : Nat → Nat) (hR : cn_S st rc S) (hn : n ≤ 2000) (k i g : Int32) : Met l yX0_part wsX0_part ({ frames := 4, cells := 0, slots := 0, locals := 120 }) (mu_Pc D vwCl (cn_W cI h0 hd hc hs wr dr ch st n rc) tys A [.ref h0, .int k, .int i, .int g]) (va_Qi (fun r w => cn_Ok cI h0 hd hc hs wr (sp_sl dr 0 n) (sp_part (cn_rows ch S 1 rc) k i g).1 w ∧ r = (sp_part (cn_rows ch S 1 rc) k i g).2) (mu_B D vwCl tys A) A) 0 0 A := by
  refine mu_of (cc := cX0_part) (maxL := 5) (ret := some .int) (own := RX0) (by decide) rfl rfl (Nat.le_of_ble_eq_true rfl) ?_
  intro p e s m below meth c hx hb hr hts hown hlocks hml hP hK hD hS ls hl
  have hl : lv_has ls 5 [(0, .ref h0), (1, .int k), (2, .int i), (3, .int g)] := hl
  have hin0 : ∀ w ∈ u_ws RX0 TX0 5, w ∈ wsX0_part := by decide +kernel
  have f17 := hts (.fieldLink RX0 17 "NameNumbers" "characters" "[I") (by decide +kernel)
  have f20 := hts (.fieldLink RX0 20 "NameNumbers" "starts" "[I") (by decide +kernel)
  have hP : va_P D vwCl (cn_W cI h0 hd hc hs wr dr ch st n rc) s.heap := hP
  refine lv_aload_n hx hb dX0_part_0 rfl (lv_at hl 0 rfl) ?_
  refine lv_iload_n hx hb dX0_part_1 rfl (lv_at hl 1 rfl) ?_
  refine vp_callSi (W.runV (As := [.int k]) (rest := []) ⟨hx, hb, hml, hown, hts⟩ (kx_isRow l D hty h0 hd hc hs wr dr ch st n rc hR.2.2.2.2 k) (cwV 1 hts gX0_part_X0_isRow rfl rfl rfl (by decide +kernel) ⟨Nat.le_of_ble_eq_true rfl, Nat.le_of_ble_eq_true rfl⟩) (pu_preV hK hP 0 rfl rfl) rfl rfl hl.1 rfl (lv_room (Nat.le_of_ble_eq_true rfl)) dX0_part_2 ⟨Nat.zero_le _, Nat.zero_le _⟩) (fun r2 er2 => ?_)
  rcases er2 with ⟨er2, hk_k⟩ | ⟨er2, hk_k⟩
  · subst er2
    obtain ⟨k', h1_k, h2_k, rfl⟩ := hk_k
    have hw_k := cn_row_yes (ch := ch) hR h1_k h2_k
    refine lv_if_ne (tgt := 10) hx hb dX0_part_5 (by decide) (fun c_5 => ?_) (fun c_5 => absurd c_5 (by decide))
    refine lv_aload_n hx hb dX0_part_10 rfl (lv_at hl 0 rfl) ?_
    refine lv_iload_n hx hb dX0_part_11 rfl (lv_at hl 1 rfl) ?_
    refine vp_callSi (W.runV (As := [.int (nI k')]) (rest := []) ⟨hx, hb, hml, hown, hts⟩ (kx_lengthOf l D hty h0 hd hc hs wr dr ch st n rc S hR k' (by omega) (by omega)) (cwV 1 hts gX0_part_X0_lengthOf rfl rfl rfl (by decide +kernel) ⟨Nat.le_of_ble_eq_true rfl, Nat.le_of_ble_eq_true rfl⟩) (pu_preV hK hP 0 rfl rfl) rfl rfl hl.1 rfl (lv_room (Nat.le_of_ble_eq_true rfl)) dX0_part_12 ⟨Nat.zero_le _, Nat.zero_le _⟩) (fun r12 er12 => ?_)
    subst er12
    refine lv_istore (lv' := [(4, .int (nI (S (k' + 1) - S k'))), (0, .ref h0), (1, .int (nI k')), (2, .int i), (3, .int g)]) hx hb dX0_part_15 hl (by decide) rfl (fun ls hl => ?_)
    refine lv_iload_n hx hb dX0_part_17 rfl (lv_at hl 3 rfl) ?_
    refine lv_if_lt (tgt := 39) hx hb dX0_part_18 (by decide) (fun c_18 => ?_) (fun c_18 => ?_)
    · refine lv_iconst (v := (-1)) hx hb dX0_part_39 (by decide) ?_
      exact mu_iret hx hb hr hlocks hP hK hD hS (by rw [cn_pt_some hw_k, if_pos (by rw [cn_row, sp_len]; first | exact Or.inl c_18 | exact Or.inr (Or.inl (nI_lt c_24 hx31)) | exact Or.inr (Or.inr (Or.inl c_28)) | exact Or.inr (Or.inr (Or.inr (by rw [nI_clamp hx31]; exact nI_lt c_36 hy31))))]; exact ⟨⟨dr, ch, st, n, rc, S, rfl, hn, hR, rfl, rfl⟩, rfl⟩) dX0_part_40
    · obtain ⟨x, hx31, rfl⟩ := nI_of c_18
      refine lv_iload_n hx hb dX0_part_21 rfl (lv_at hl 3 rfl) ?_
      refine lv_iload hx hb dX0_part_22 (lv_at hl 0 rfl) ?_
      refine rn_icmp_gt (tgt := 39) hx hb (by have := cn_top hR (k := k' + 1) (by omega) (by omega); omega) (by have := cn_top hR (k := k' + 1) (by omega) (by omega); omega) dX0_part_24 (by decide) (fun c_24 => ?_) (fun c_24 => ?_)
      · refine lv_iconst (v := (-1)) hx hb dX0_part_39 (by decide) ?_
        exact mu_iret hx hb hr hlocks hP hK hD hS (by rw [cn_pt_some hw_k, if_pos (by rw [cn_row, sp_len]; first | exact Or.inl c_18 | exact Or.inr (Or.inl (nI_lt c_24 hx31)) | exact Or.inr (Or.inr (Or.inl c_28)) | exact Or.inr (Or.inr (Or.inr (by rw [nI_clamp hx31]; exact nI_lt c_36 hy31))))]; exact ⟨⟨dr, ch, st, n, rc, S, rfl, hn, hR, rfl, rfl⟩, rfl⟩) dX0_part_40
      · refine lv_iload_n hx hb dX0_part_27 rfl (lv_at hl 4 rfl) ?_
        refine lv_if_lt (tgt := 39) hx hb dX0_part_28 (by decide) (fun c_28 => ?_) (fun c_28 => ?_)
        · refine lv_iconst (v := (-1)) hx hb dX0_part_39 (by decide) ?_
          exact mu_iret hx hb hr hlocks hP hK hD hS (by rw [cn_pt_some hw_k, if_pos (by rw [cn_row, sp_len]; first | exact Or.inl c_18 | exact Or.inr (Or.inl (nI_lt c_24 hx31)) | exact Or.inr (Or.inr (Or.inl c_28)) | exact Or.inr (Or.inr (Or.inr (by rw [nI_clamp hx31]; exact nI_lt c_36 hy31))))]; exact ⟨⟨dr, ch, st, n, rc, S, rfl, hn, hR, rfl, rfl⟩, rfl⟩) dX0_part_40
        · obtain ⟨y, hy31, rfl⟩ := nI_of c_28
          refine lv_iload_n hx hb dX0_part_31 rfl (lv_at hl 4 rfl) ?_
          refine lv_iload hx hb dX0_part_32 (lv_at hl 0 rfl) ?_
          refine lv_iload_n hx hb dX0_part_34 rfl (lv_at hl 3 rfl) ?_
          refine rn_isub hx hb (by omega) dX0_part_35 ?_
          refine rn_icmp_le (tgt := 41) hx hb (by have := cn_top hR (k := k' + 1) (by omega) (by omega); omega) (by have := cn_top hR (k := k' + 1) (by omega) (by omega); omega) dX0_part_36 (by decide) (fun c_36 => ?_) (fun c_36 => ?_)
          · refine lv_aload_n hx hb dX0_part_41 rfl (lv_at hl 1 rfl) ?_
            refine lv_aload_n hx hb dX0_part_42 rfl (lv_at hl 1 rfl) ?_
            refine va_get (D := D) (ci := 0) (v := .ref hc) (C := RX0) (T := TX0) (N := 5) hx hb hts hin0 hown hK hP 0 rfl rfl 2 (by decide) f17 (fun _ h9 => h9) rfl dX0_part_43 ?_
            refine lv_aload_n hx hb dX0_part_46 rfl (lv_at hl 1 rfl) ?_
            refine va_get (D := D) (ci := 0) (v := .ref hs) (C := RX0) (T := TX0) (N := 5) hx hb hts hin0 hown hK hP 0 rfl rfl 3 (by decide) f20 (fun _ h9 => h9) rfl dX0_part_47 ?_
            refine lv_iload_n hx hb dX0_part_50 rfl (lv_at hl 2 rfl) ?_
            refine rn_ald (v := nI (S k')) hx hb hK hP 3 0 rfl hty (by have := hR.2.2.2.2; omega) (by decide) (hR.2.1 _ (by omega) (by omega)) dX0_part_51 ?_
            refine lv_iload_n hx hb dX0_part_52 rfl (lv_at hl 3 rfl) ?_
            refine rn_iadd hx hb dX0_part_53 ?_
            refine lv_iload_n hx hb dX0_part_54 rfl (lv_at hl 4 rfl) ?_
            have htk := cn_top hR (k := k' + 1) (by omega) (by omega)
            have hlk := hR.2.2.1 k' h1_k h2_k
            refine mu_calli (va_runV (As := [.ref hc, .int (nI (S k' + x)), .int (nI y)]) (rest := []) ⟨hx, hb, hml, hown, hts⟩ (kx_numberOf l D hty h0 hd hc hs wr dr ch st n rc A S hR 2 hc 20000 ch rfl (by decide) (S k' + x) y (by omega)) (cwV 3 hts gX0_part_X0_numberOf rfl rfl rfl (by decide +kernel) ⟨Nat.le_of_ble_eq_true rfl, Nat.le_of_ble_eq_true rfl⟩) (mu_preV hK hP hD 0 rfl rfl) rfl rfl hl.1 rfl (lv_room (Nat.le_of_ble_eq_true rfl)) dX0_part_55 ⟨Nat.zero_le _, Nat.zero_le _⟩) hS (fun r55 w_55 H locs er55 hP hD hS => ?_)
            obtain ⟨ch', st', rc', S', rfl, hR', hsp⟩ := er55
            exact mu_iret hx hb hr hlocks hP hK hD hS (by rw [cn_pt_some hw_k, if_neg (cn_pt_no c_18 c_28 hx31 hy31 c_24 c_36 (by omega)), cn_pt_row hx31 hy31 c_24 c_36, hsp]; exact ⟨⟨dr, ch', st', n, rc', S', rfl, hn, hR', rfl, rfl⟩, rfl⟩) dX0_part_58
          · refine lv_iconst (v := (-1)) hx hb dX0_part_39 (by decide) ?_
            exact mu_iret hx hb hr hlocks hP hK hD hS (by rw [cn_pt_some hw_k, if_pos (by rw [cn_row, sp_len]; first | exact Or.inl c_18 | exact Or.inr (Or.inl (nI_lt c_24 hx31)) | exact Or.inr (Or.inr (Or.inl c_28)) | exact Or.inr (Or.inr (Or.inr (by rw [nI_clamp hx31]; exact nI_lt c_36 hy31))))]; exact ⟨⟨dr, ch, st, n, rc, S, rfl, hn, hR, rfl, rfl⟩, rfl⟩) dX0_part_40
  · subst er2
    have hw_k := cn_row_no (ch := ch) hR hk_k
    refine lv_if_ne (tgt := 10) hx hb dX0_part_5 (by decide) (fun c_5 => absurd c_5 (not_not_intro (by decide))) (fun c_5 => ?_)
    refine lv_iconst (v := (-1)) hx hb dX0_part_8 (by decide) ?_
    exact mu_iret hx hb hr hlocks hP hK hD hS (by rw [sp_part, hw_k]; exact ⟨⟨dr, ch, st, n, rc, S, rfl, hn, hR, rfl, rfl⟩, rfl⟩) dX0_part_9
end
section
set_option maxHeartbeats 4000000 in
set_option maxRecDepth 100000 in
/-- write -/
theorem kx_write (l : Launch) (D : va_G) {tys : List (ClassId × FieldType)} {cI : ClassId} (hty : tys[0]? = some (cI, .int)) (h0 hd hc hs : Nat) (wr : va_W) (dr ch st : Nat → Int32) (n rc : Nat) (A : Nat → Prop) (S : Nat → Nat) (hR : cn_S st rc S) (hn : n ≤ 2000) (q g : Int32) : Met l yX0_write wsX0_write ({ frames := 0, cells := 0, slots := 0, locals := 0 }) (mu_Pc D vwCl (cn_W cI h0 hd hc hs wr dr ch st n rc) tys A [.ref h0, .int q, .int g]) (va_Qi (fun r w => cn_Ok cI h0 hd hc hs wr (sp_write (sp_sl dr 0 n) q g).1 (cn_rows ch S 1 rc) w ∧ r = (sp_write (sp_sl dr 0 n) q g).2) (mu_B D vwCl tys A) A) 0 0 A := by
  refine mu_of (cc := cX0_write) (maxL := 4) (ret := some .int) (own := RX0) (by decide) rfl rfl (Nat.le_of_ble_eq_true rfl) ?_
  intro p e s m below meth c hx hb hr hts hown hlocks hml hP hK hD hS ls hl
  have hl : lv_has ls 4 [(0, .ref h0), (1, .int q), (2, .int g)] := hl
  have hin0 : ∀ w ∈ u_ws RX0 TX0 5, w ∈ wsX0_write := by decide +kernel
  have f9 := hts (.fieldLink RX0 9 "NameNumbers" "draft" "[I") (by decide +kernel)
  have f13 := hts (.fieldLink RX0 13 "NameNumbers" "draftLength" "I") (by decide +kernel)
  have hP : va_P D vwCl (cn_W cI h0 hd hc hs wr dr ch st n rc) s.heap := hP
  refine lv_iload_n hx hb dX0_write_0 rfl (lv_at hl 2 rfl) ?_
  refine lv_if_lt (tgt := 11) hx hb dX0_write_1 (by decide) (fun c_1 => ?_) (fun c_1 => ?_)
  · refine lv_iconst (v := (-1)) hx hb dX0_write_11 (by decide) ?_
    exact mu_iret hx hb hr hlocks hP hK hD hS (by rw [cn_wr_no (by first | exact Or.inl c_1 | exact Or.inr (Or.inl (nI_lt c_8 hy31)))]; exact ⟨⟨dr, ch, st, n, rc, S, rfl, hn, hR, rfl, rfl⟩, rfl⟩) dX0_write_12
  · obtain ⟨y, hy31, rfl⟩ := nI_of c_1
    refine lv_iload_n hx hb dX0_write_4 rfl (lv_at hl 2 rfl) ?_
    refine lv_sipush (v := nI 500) hx hb dX0_write_5 (by decide) ?_
    refine rn_icmp_le (tgt := 13) hx hb (by omega) (by omega) dX0_write_8 (by decide) (fun c_8 => ?_) (fun c_8 => ?_)
    · refine lv_iload_n hx hb dX0_write_13 rfl (lv_at hl 1 rfl) ?_
      refine lv_if_lt (tgt := 25) hx hb dX0_write_14 (by decide) (fun c_14 => ?_) (fun c_14 => ?_)
      · refine lv_iconst (v := (-1)) hx hb dX0_write_25 (by decide) ?_
        exact mu_iret hx hb hr hlocks hP hK hD hS (by rw [cn_wr_no (Or.inr (Or.inr (by first | exact Or.inl c_14 | exact Or.inr (Or.inl (by rw [nI_clamp hy31]; exact nI_lt c_22 hx31)))))]; exact ⟨⟨dr, ch, st, n, rc, S, rfl, hn, hR, rfl, rfl⟩, rfl⟩) dX0_write_26
      · obtain ⟨x, hx31, rfl⟩ := nI_of c_14
        refine lv_iload_n hx hb dX0_write_17 rfl (lv_at hl 1 rfl) ?_
        refine lv_ldc (v := nI 1114111) hx hb hown (hts (.constant RX0 26 (nI 1114111)) (by decide +kernel)) dX0_write_18 ?_
        refine lv_iload_n hx hb dX0_write_20 rfl (lv_at hl 2 rfl) ?_
        refine rn_isub hx hb (by omega) dX0_write_21 ?_
        refine rn_icmp_le (tgt := 27) hx hb (by omega) (by omega) dX0_write_22 (by decide) (fun c_22 => ?_) (fun c_22 => ?_)
        · refine lv_iload_n hx hb dX0_write_27 rfl (lv_at hl 2 rfl) ?_
          refine lv_iconst (v := nI 1) hx hb dX0_write_28 (by decide) ?_
          refine rn_iadd hx hb dX0_write_29 ?_
          refine lv_sipush (v := nI 2000) hx hb dX0_write_30 (by decide) ?_
          refine lv_aload_n hx hb dX0_write_33 rfl (lv_at hl 0 rfl) ?_
          refine va_get (D := D) (ci := 0) (v := .int (nI n)) (C := RX0) (T := TX0) (N := 5) hx hb hts hin0 hown hK hP 0 rfl rfl 1 (by decide) f13 (fun _ h9 => h9) rfl dX0_write_34 ?_
          refine rn_isub hx hb (by omega) dX0_write_37 ?_
          refine rn_icmp_le (tgt := 43) hx hb (by omega) (by omega) dX0_write_38 (by decide) (fun c_38 => ?_) (fun c_38 => ?_)
          · refine lv_iconst (v := nI 0) hx hb dX0_write_43 (by decide) ?_
            refine lv_istore_n (lv' := [(3, .int (nI 0)), (0, .ref h0), (1, .int (nI x)), (2, .int (nI y))]) hx hb dX0_write_44 rfl hl (by decide) rfl (fun ls hl => ?_)
            have loop : ∀ (j : Nat) (i : Nat) (f : Nat → Int32) (H : Heap) (locs : List Loc) (ls : Array Slot), y + 2 ≤ i + j → i ≤ y + 1 → (∀ z, z < n → f z = dr z) → (∀ z, z < i → f (n + z) = nI (x + z)) → va_P D vwCl (cn_W cI h0 hd hc hs wr f ch st n rc) H → va_D A (cn_W cI h0 hd hc hs wr f ch st n rc) → va_S A s.heap H locs → lv_has ls 4 [(0, .ref h0), (1, .int (nI x)), (2, .int (nI y)), (3, .int (nI i))] → W p l e { frames := 0, cells := 0, slots := 0, locals := 0 } s m [.ref h0, .int (nI x), .int (nI y)].toArray below meth c H locs 0 0 (MQ below (va_Qi (fun r w => cn_Ok cI h0 hd hc hs wr (sp_write (sp_sl dr 0 n) (nI x) (nI y)).1 (cn_rows ch S 1 rc) w ∧ r = (sp_write (sp_sl dr 0 n) (nI x) (nI y)).2) (mu_B D vwCl tys A) A) [.ref h0, .int (nI x), .int (nI y)].toArray s 0 0 A) (F0 m 45 ls []) := by
              intro j
              induction j with
              | zero => intro i f H locs ls hj hi hinv1 hinv2 hP hD hS hl; exfalso; omega
              | succ j ih =>
                intro i f H locs ls hj hi hinv1 hinv2 hP hD hS hl
                refine lv_iload_n hx hb dX0_write_45 rfl (lv_at hl 3 rfl) ?_
                refine lv_iload_n hx hb dX0_write_46 rfl (lv_at hl 2 rfl) ?_
                refine rn_icmp_gt (tgt := 70) hx hb (by omega) (by omega) dX0_write_47 (by decide) (fun c_47 => ?_) (fun c_47 => ?_)
                · refine lv_aload_n hx hb dX0_write_70 rfl (lv_at hl 0 rfl) ?_
                  refine lv_dup hx hb dX0_write_71 rfl ?_
                  refine va_get (D := D) (ci := 0) (v := .int (nI n)) (C := RX0) (T := TX0) (N := 5) hx hb hts hin0 hown hK hP 0 rfl rfl 1 (by decide) f13 (fun _ h9 => h9) rfl dX0_write_72 ?_
                  refine lv_iload_n hx hb dX0_write_75 rfl (lv_at hl 2 rfl) ?_
                  refine lv_iconst (v := nI 1) hx hb dX0_write_76 (by decide) ?_
                  refine rn_iadd hx hb dX0_write_77 ?_
                  refine rn_iadd hx hb dX0_write_78 ?_
                  refine va_put (D := D) (ci := 0) (v := .int (nI (n + (y + 1)))) (ty := .int) (C := RX0) (T := TX0) (N := 5) hx hb hts hin0 tyX0 tyX0_ok nmX0 hown hK hP hD hS 0 rfl rfl 1 (by decide) f13 (fun _ h9 => h9) rfl (by decide +kernel) rfl rfl (Nat.le_of_ble_eq_true rfl) dX0_write_79 (fun H locs hP hD hS => ?_)
                  have hP : va_P D vwCl ((h0, .inr (0, [.ref hd, .int (nI (n + (y + 1))), .ref hc, .ref hs, .int (nI rc)])) :: (hd, .inl (cI, 2000, .inl f)) :: (hc, .inl (cI, 20000, .inl ch)) :: (hs, .inl (cI, 3002, .inl st)) :: wr) H := hP
                  have hD : va_D A ((h0, .inr (0, [.ref hd, .int (nI (n + (y + 1))), .ref hc, .ref hs, .int (nI rc)])) :: (hd, .inl (cI, 2000, .inl f)) :: (hc, .inl (cI, 20000, .inl ch)) :: (hs, .inl (cI, 3002, .inl st)) :: wr) := hD
                  refine lv_aload_n hx hb dX0_write_82 rfl (lv_at hl 0 rfl) ?_
                  refine va_get (D := D) (ci := 0) (v := .int (nI (n + (y + 1)))) (C := RX0) (T := TX0) (N := 5) hx hb hts hin0 hown hK hP 0 rfl rfl 1 (by decide) f13 (fun _ h9 => h9) rfl dX0_write_83 ?_
                  exact mu_iret hx hb hr hlocks hP hK hD hS (by rw [cn_wr_yes (f := f) c_1 c_14 c_8 c_22 (by omega) (fun z hz => hinv1 z hz) (fun z hz => hinv2 z (by omega))]; exact ⟨⟨f, ch, st, _, rc, S, rfl, by omega, hR, rfl, rfl⟩, rfl⟩) dX0_write_86
                · refine lv_aload_n hx hb dX0_write_50 rfl (lv_at hl 0 rfl) ?_
                  refine va_get (D := D) (ci := 0) (v := .ref hd) (C := RX0) (T := TX0) (N := 5) hx hb hts hin0 hown hK hP 0 rfl rfl 0 (by decide) f9 (fun _ h9 => h9) rfl dX0_write_51 ?_
                  refine lv_aload_n hx hb dX0_write_54 rfl (lv_at hl 0 rfl) ?_
                  refine va_get (D := D) (ci := 0) (v := .int (nI n)) (C := RX0) (T := TX0) (N := 5) hx hb hts hin0 hown hK hP 0 rfl rfl 1 (by decide) f13 (fun _ h9 => h9) rfl dX0_write_55 ?_
                  refine lv_iload_n hx hb dX0_write_58 rfl (lv_at hl 3 rfl) ?_
                  refine rn_iadd hx hb dX0_write_59 ?_
                  refine lv_iload_n hx hb dX0_write_60 rfl (lv_at hl 1 rfl) ?_
                  refine lv_iload_n hx hb dX0_write_61 rfl (lv_at hl 3 rfl) ?_
                  refine rn_iadd hx hb dX0_write_62 ?_
                  refine rn_ast hx hb hK hP hD hS 1 0 rfl hty (by omega) (by decide) dX0_write_63 (fun H locs hP hD hS => ?_)
                  have hP : va_P D vwCl ((h0, .inr (0, [.ref hd, .int (nI n), .ref hc, .ref hs, .int (nI rc)])) :: (hd, .inl (cI, 2000, .inl (upd f (n + i) (nI (x + i))))) :: (hc, .inl (cI, 20000, .inl ch)) :: (hs, .inl (cI, 3002, .inl st)) :: wr) H := hP
                  have hD : va_D A ((h0, .inr (0, [.ref hd, .int (nI n), .ref hc, .ref hs, .int (nI rc)])) :: (hd, .inl (cI, 2000, .inl (upd f (n + i) (nI (x + i))))) :: (hc, .inl (cI, 20000, .inl ch)) :: (hs, .inl (cI, 3002, .inl st)) :: wr) := hD
                  refine rn_iinc (n := 1) (lv' := [(3, .int (nI (i + 1))), (0, .ref h0), (1, .int (nI x)), (2, .int (nI y))]) hx hb dX0_write_64 hl (k := 3) rfl (by decide) rfl (fun ls hl => ?_)
                  refine lv_goto (tgt := 45) hx hb dX0_write_67 (by decide) ?_
                  exact ih (i + 1) (upd f (n + i) (nI (x + i))) H locs ls (by omega) (by omega) (fun z hz => by rw [pk_un (by omega)]; exact hinv1 z hz) (fun z hz => (Nat.lt_or_ge z i).elim (fun h => by rw [pk_un (by omega)]; exact hinv2 z h) (fun h => by rw [show z = i by omega, pk_us])) hP hD hS (lv_sub hl [1, 2, 3, 0] rfl)
            exact loop (y + 2) 0 dr s.heap [] ls (by omega) (Nat.zero_le _) (fun _ _ => rfl) (fun z hz => absurd hz (Nat.not_lt_zero z)) hP hD hS (lv_sub hl [1, 2, 3, 0] rfl)
          · refine lv_iconst (v := (-1)) hx hb dX0_write_41 (by decide) ?_
            exact mu_iret hx hb hr hlocks hP hK hD hS (by rw [cn_wr_no (Or.inr (Or.inr (Or.inr (Or.inr (by rw [nI_clamp hy31, sp_len]; omega)))))]; exact ⟨⟨dr, ch, st, n, rc, S, rfl, hn, hR, rfl, rfl⟩, rfl⟩) dX0_write_42
        · refine lv_iconst (v := (-1)) hx hb dX0_write_25 (by decide) ?_
          exact mu_iret hx hb hr hlocks hP hK hD hS (by rw [cn_wr_no (Or.inr (Or.inr (by first | exact Or.inl c_14 | exact Or.inr (Or.inl (by rw [nI_clamp hy31]; exact nI_lt c_22 hx31)))))]; exact ⟨⟨dr, ch, st, n, rc, S, rfl, hn, hR, rfl, rfl⟩, rfl⟩) dX0_write_26
    · refine lv_iconst (v := (-1)) hx hb dX0_write_11 (by decide) ?_
      exact mu_iret hx hb hr hlocks hP hK hD hS (by rw [cn_wr_no (by first | exact Or.inl c_1 | exact Or.inr (Or.inl (nI_lt c_8 hy31)))]; exact ⟨⟨dr, ch, st, n, rc, S, rfl, hn, hR, rfl, rfl⟩, rfl⟩) dX0_write_12
end
section
set_option maxHeartbeats 4000000 in
set_option maxRecDepth 100000 in
/-- next -/
theorem kx_next (l : Launch) (D : va_G) {tys : List (ClassId × FieldType)} {cI : ClassId} (hty : tys[0]? = some (cI, .int)) (h0 hd hc hs : Nat) (wr : va_W) (dr ch st : Nat → Int32) (n rc : Nat) (S : Nat → Nat) (hR : cn_S st rc S) (k : Int32) : Met l yX0_next wsX0_next ({ frames := 2, cells := 0, slots := 0, locals := 60 }) (pu_Pc D vwCl (cn_W cI h0 hd hc hs wr dr ch st n rc) tys [.ref h0, .int k]) (vp_Si (fun r => r = sp_next (cn_rows ch S 1 rc) k)) 0 0 (fun _ => False) := by
  refine pu_of (cc := cX0_next) (maxL := 4) (ret := some .int) (own := RX0) (by decide) rfl rfl (Nat.le_of_ble_eq_true rfl) ?_
  intro p e s m below meth c hx hb hr hts hown hlocks hml hP hK ls hl
  have hl : lv_has ls 4 [(0, .ref h0), (1, .int k)] := hl
  have hin0 : ∀ w ∈ u_ws RX0 TX0 5, w ∈ wsX0_next := by decide +kernel
  have f23 := hts (.fieldLink RX0 23 "NameNumbers" "rowCount" "I") (by decide +kernel)
  refine lv_aload_n hx hb dX0_next_0 rfl (lv_at hl 0 rfl) ?_
  refine lv_iload_n hx hb dX0_next_1 rfl (lv_at hl 1 rfl) ?_
  refine vp_callSi (W.runV (As := [.int k]) (rest := []) ⟨hx, hb, hml, hown, hts⟩ (kx_isRow l D hty h0 hd hc hs wr dr ch st n rc hR.2.2.2.2 k) (cwV 1 hts gX0_next_X0_isRow rfl rfl rfl (by decide +kernel) ⟨Nat.le_of_ble_eq_true rfl, Nat.le_of_ble_eq_true rfl⟩) (pu_preV hK hP 0 rfl rfl) rfl rfl hl.1 rfl (lv_room (Nat.le_of_ble_eq_true rfl)) dX0_next_2 ⟨Nat.zero_le _, Nat.zero_le _⟩) (fun r2 er2 => ?_)
  rcases er2 with ⟨er2, hk_k⟩ | ⟨er2, hk_k⟩
  · subst er2
    obtain ⟨k', h1_k, h2_k, rfl⟩ := hk_k
    have hw_k := cn_row_yes (ch := ch) hR h1_k h2_k
    refine lv_if_ne (tgt := 10) hx hb dX0_next_5 (by decide) (fun c_5 => ?_) (fun c_5 => absurd c_5 (by decide))
    refine lv_iconst (v := nI 0) hx hb dX0_next_10 (by decide) ?_
    refine lv_istore_n (lv' := [(2, .int (nI 0)), (0, .ref h0), (1, .int (nI k'))]) hx hb dX0_next_11 rfl hl (by decide) rfl (fun ls hl => ?_)
    refine lv_iconst (v := nI 1) hx hb dX0_next_12 (by decide) ?_
    refine lv_istore_n (lv' := [(3, .int (nI 1)), (2, .int (nI 0)), (0, .ref h0), (1, .int (nI k'))]) hx hb dX0_next_13 rfl hl (by decide) rfl (fun ls hl => ?_)
    have hrc := hR.2.2.2.2
    have loop : ∀ (j : Nat) (o : Nat) (b : Nat) (ls : Array Slot), rc + 2 ≤ o + j → 1 ≤ o → o ≤ rc + 1 → b ≤ rc → sp_nx (cn_rows ch S 1 rc) (cn_row ch S k') (cn_rows ch S 1 rc) 1 0 = sp_nx (cn_rows ch S 1 rc) (cn_row ch S k') (cn_rows ch S o (rc + 1 - o)) o b → lv_has ls 4 [(0, .ref h0), (1, .int (nI k')), (2, .int (nI b)), (3, .int (nI o))] → W p l e { frames := 2, cells := 0, slots := 0, locals := 60 } s m [.ref h0, .int (nI k')].toArray below meth c s.heap [] 0 0 (MQ below (vp_Si (fun r => r = sp_next (cn_rows ch S 1 rc) (nI k'))) [.ref h0, .int (nI k')].toArray s 0 0 (fun _ => False)) (F0 m 14 ls []) := by
      intro j
      induction j with
      | zero => intro o b ls hj hk1 hk2 hbb hinv hl; exfalso; omega
      | succ j ih =>
        intro o b ls hj hk1 hk2 hbb hinv hl
        refine lv_iload_n hx hb dX0_next_14 rfl (lv_at hl 3 rfl) ?_
        refine lv_aload_n hx hb dX0_next_15 rfl (lv_at hl 0 rfl) ?_
        refine va_get (D := D) (ci := 0) (v := .int (nI rc)) (C := RX0) (T := TX0) (N := 5) hx hb hts hin0 hown hK hP 0 rfl rfl 4 (by decide) f23 (fun _ h9 => h9) rfl dX0_next_16 ?_
        refine rn_icmp_gt (tgt := 52) hx hb (by have := hR.2.2.2.2; omega) (by have := hR.2.2.2.2; omega) dX0_next_19 (by decide) (fun c_19 => ?_) (fun c_19 => ?_)
        · refine lv_iload_n hx hb dX0_next_52 rfl (lv_at hl 2 rfl) ?_
          exact pu_iret hx hb hr hlocks (by rw [sp_next, hw_k]; show nI b = nI (sp_nx _ _ _ 1 0); rw [cn_nx_end c_19 hinv]) dX0_next_53
        · refine lv_aload_n hx hb dX0_next_22 rfl (lv_at hl 0 rfl) ?_
          refine lv_iload_n hx hb dX0_next_23 rfl (lv_at hl 3 rfl) ?_
          refine lv_iload_n hx hb dX0_next_24 rfl (lv_at hl 1 rfl) ?_
          refine vp_callSi (W.runV (As := [.int (nI o), .int (nI k')]) (rest := []) ⟨hx, hb, hml, hown, hts⟩ (kx_order l D hty h0 hd hc hs wr dr ch st n rc S hR o k' hk1 (by omega) h1_k h2_k) (cwV 2 hts gX0_next_X0_order rfl rfl rfl (by decide +kernel) ⟨Nat.le_of_ble_eq_true rfl, Nat.le_of_ble_eq_true rfl⟩) (pu_preV hK hP 0 rfl rfl) rfl rfl hl.1 rfl (lv_room (Nat.le_of_ble_eq_true rfl)) dX0_next_25 ⟨Nat.zero_le _, Nat.zero_le _⟩) (fun r25 er25 => ?_)
          refine lv_if_le (tgt := 46) hx hb dX0_next_28 (by decide) (fun c_28 => ?_) (fun c_28 => ?_)
          · refine rn_iinc (n := 1) (lv' := [(3, .int (nI (o + 1))), (0, .ref h0), (1, .int (nI k')), (2, .int (nI b))]) hx hb dX0_next_46 hl (k := 3) rfl (by decide) rfl (fun ls hl => ?_)
            refine lv_goto (tgt := 14) hx hb dX0_next_49 (by decide) ?_
            exact ih (o + 1) b ls (by omega) (by omega) (by omega) hbb (by first | exact cn_nx_a (by omega) hinv (by rw [← er25]; exact c_28) | exact cn_nx_b (by omega) hinv (Nat.one_le_iff_ne_zero.mpr (fun q => c_32 (by rw [q]; rfl))) hbb (by rw [← er38]; exact c_41)) (lv_sub hl [1, 2, 3, 0] rfl)
          · refine lv_iload_n hx hb dX0_next_31 rfl (lv_at hl 2 rfl) ?_
            refine lv_if_eq (tgt := 44) hx hb dX0_next_32 (by decide) (fun c_32 => ?_) (fun c_32 => ?_)
            · refine lv_iload_n hx hb dX0_next_44 rfl (lv_at hl 3 rfl) ?_
              refine lv_istore_n (lv' := [(2, .int (nI o)), (0, .ref h0), (1, .int (nI k')), (3, .int (nI o))]) hx hb dX0_next_45 rfl hl (by decide) rfl (fun ls hl => ?_)
              refine rn_iinc (n := 1) (lv' := [(3, .int (nI (o + 1))), (2, .int (nI o)), (0, .ref h0), (1, .int (nI k'))]) hx hb dX0_next_46 hl (k := 3) rfl (by decide) rfl (fun ls hl => ?_)
              refine lv_goto (tgt := 14) hx hb dX0_next_49 (by decide) ?_
              exact ih (o + 1) o ls (by omega) (by omega) (by omega) (by omega) (by first | exact cn_nx_d (by omega) hinv (by rw [← er25]; exact c_28) (Nat.one_le_iff_ne_zero.mpr (fun q => c_32 (by rw [q]; rfl))) hbb (by rw [← er38]; exact c_41) | exact cn_nx_c (by omega) hinv (by rw [← er25]; exact c_28) (sp_nI0 (by omega) c_32)) (lv_sub hl [2, 3, 1, 0] rfl)
            · refine lv_aload_n hx hb dX0_next_35 rfl (lv_at hl 0 rfl) ?_
              refine lv_iload_n hx hb dX0_next_36 rfl (lv_at hl 3 rfl) ?_
              refine lv_iload_n hx hb dX0_next_37 rfl (lv_at hl 2 rfl) ?_
              refine vp_callSi (W.runV (As := [.int (nI o), .int (nI b)]) (rest := []) ⟨hx, hb, hml, hown, hts⟩ (kx_order l D hty h0 hd hc hs wr dr ch st n rc S hR o b hk1 (by omega) (Nat.one_le_iff_ne_zero.mpr (fun q => c_32 (by rw [q]; rfl))) hbb) (cwV 2 hts gX0_next_X0_order rfl rfl rfl (by decide +kernel) ⟨Nat.le_of_ble_eq_true rfl, Nat.le_of_ble_eq_true rfl⟩) (pu_preV hK hP 0 rfl rfl) rfl rfl hl.1 rfl (lv_room (Nat.le_of_ble_eq_true rfl)) dX0_next_38 ⟨Nat.zero_le _, Nat.zero_le _⟩) (fun r38 er38 => ?_)
              refine lv_if_ge (tgt := 46) hx hb dX0_next_41 (by decide) (fun c_41 => ?_) (fun c_41 => ?_)
              · refine rn_iinc (n := 1) (lv' := [(3, .int (nI (o + 1))), (0, .ref h0), (1, .int (nI k')), (2, .int (nI b))]) hx hb dX0_next_46 hl (k := 3) rfl (by decide) rfl (fun ls hl => ?_)
                refine lv_goto (tgt := 14) hx hb dX0_next_49 (by decide) ?_
                exact ih (o + 1) b ls (by omega) (by omega) (by omega) hbb (by first | exact cn_nx_a (by omega) hinv (by rw [← er25]; exact c_28) | exact cn_nx_b (by omega) hinv (Nat.one_le_iff_ne_zero.mpr (fun q => c_32 (by rw [q]; rfl))) hbb (by rw [← er38]; exact c_41)) (lv_sub hl [1, 2, 3, 0] rfl)
              · refine lv_iload_n hx hb dX0_next_44 rfl (lv_at hl 3 rfl) ?_
                refine lv_istore_n (lv' := [(2, .int (nI o)), (0, .ref h0), (1, .int (nI k')), (3, .int (nI o))]) hx hb dX0_next_45 rfl hl (by decide) rfl (fun ls hl => ?_)
                refine rn_iinc (n := 1) (lv' := [(3, .int (nI (o + 1))), (2, .int (nI o)), (0, .ref h0), (1, .int (nI k'))]) hx hb dX0_next_46 hl (k := 3) rfl (by decide) rfl (fun ls hl => ?_)
                refine lv_goto (tgt := 14) hx hb dX0_next_49 (by decide) ?_
                exact ih (o + 1) o ls (by omega) (by omega) (by omega) (by omega) (by first | exact cn_nx_d (by omega) hinv (by rw [← er25]; exact c_28) (Nat.one_le_iff_ne_zero.mpr (fun q => c_32 (by rw [q]; rfl))) hbb (by rw [← er38]; exact c_41) | exact cn_nx_c (by omega) hinv (by rw [← er25]; exact c_28) (sp_nI0 (by omega) c_32)) (lv_sub hl [2, 3, 1, 0] rfl)
    exact loop (rc + 2) 1 0 ls (by omega) (Nat.le_refl 1) (by omega) (Nat.zero_le _) rfl (lv_sub hl [2, 3, 1, 0] rfl)
  · subst er2
    have hw_k := cn_row_no (ch := ch) hR hk_k
    refine lv_if_ne (tgt := 10) hx hb dX0_next_5 (by decide) (fun c_5 => absurd c_5 (not_not_intro (by decide))) (fun c_5 => ?_)
    refine lv_iconst (v := (-1)) hx hb dX0_next_8 (by decide) ?_
    exact pu_iret hx hb hr hlocks (by rw [sp_next, hw_k]) dX0_next_9
end
section
/-- the table of the name starts lies at t -/
def cn_NS (t : Nat) (U : State) : Prop := va_T .int t 32 (fun j => .int (sp_tb.getD j 0)) (fun _ => False) U U.heap ∧ va_Z RX0 "NAME_STARTS" "[I" (.ref t) (fun _ => False) U U.heap
theorem cn_NS_E (t : Nat) : pz_E (cn_NS t) := fun u U hvm hh h => ⟨by rw [hh]; exact va_T.moved hvm h.1, by rw [hh]; exact va_Z.moved hvm h.2⟩
set_option maxHeartbeats 4000000 in
set_option maxRecDepth 100000 in
/-- isNameStart -/
theorem kx_isNameStart (l : Launch) (D : va_G) {tys : List (ClassId × FieldType)} (ws : va_W) (t : Nat) (q : Int32) : Met l yX0_isNameStart wsX0_isNameStart ({ frames := 0, cells := 0, slots := 0, locals := 0 }) (pz_Pc D vwCl (ws) tys (cn_NS t) [.int q]) (vp_Si (fun r => (r = nI 1 ∧ sp_ns q = true) ∨ (r = nI 0 ∧ sp_ns q = false))) 0 0 (fun _ => False) := by
  refine pz_of (cc := cX0_isNameStart) (maxL := 2) (ret := some .boolean) (own := RX0) (by decide) rfl rfl (Nat.le_of_ble_eq_true rfl) ?_
  intro p e s m below meth c hx hb hr hts hown hlocks hml hP hK hN ls hl
  have hl : lv_has ls 2 [(0, .int q)] := hl
  have loop : ∀ (j : Nat) (v : Nat) (ls : Array Slot), 17 ≤ v + j → v ≤ 16 → sp_ns q = sp_in q v (16 - v) → lv_has ls 2 [(0, .int q), (1, .int (nI (2 * v)))] → W p l e { frames := 0, cells := 0, slots := 0, locals := 0 } s m [.int q].toArray below meth c s.heap [] 0 0 (MQ below (vp_Si (fun r => (r = nI 1 ∧ sp_ns q = true) ∨ (r = nI 0 ∧ sp_ns q = false))) [.int q].toArray s 0 0 (fun _ => False)) (F0 m 2 ls []) := by
    intro j
    induction j with
    | zero => intro v ls hj hv hinv hl; exfalso; omega
    | succ j ih =>
      intro v ls hj hv hinv hl
      refine lv_iload_n hx hb dX0_isNameStart_2 rfl (lv_at hl 1 rfl) ?_
      refine lv_iconst (v := nI 1) hx hb dX0_isNameStart_3 (by decide) ?_
      refine rn_iadd hx hb dX0_isNameStart_4 ?_
      refine va_gets hx hb hN.2 va_S.rf hown (hts (.fieldLink RX0 73 "NameNumbers" "NAME_STARTS" "[I") (by decide +kernel)) (fun _ h9 => h9) dX0_isNameStart_5 ?_
      refine va_tlen (v := nI 32) hx hb hN.1 va_S.rf rfl dX0_isNameStart_8 ?_
      refine rn_icmp_ge (tgt := 40) hx hb (by omega) (by omega) dX0_isNameStart_9 (by decide) (fun c_9 => ?_) (fun c_9 => ?_)
      · refine lv_iconst (v := nI 0) hx hb dX0_isNameStart_40 (by decide) ?_
        exact pu_zret hx hb hr hlocks (by decide) (Or.inr ⟨rfl, by rw [hinv, show 16 - v = 0 by omega]; rfl⟩) dX0_isNameStart_41
      · refine lv_iload_n hx hb dX0_isNameStart_12 rfl (lv_at hl 0 rfl) ?_
        refine va_gets hx hb hN.2 va_S.rf hown (hts (.fieldLink RX0 73 "NameNumbers" "NAME_STARTS" "[I") (by decide +kernel)) (fun _ h9 => h9) dX0_isNameStart_13 ?_
        refine lv_iload_n hx hb dX0_isNameStart_16 rfl (lv_at hl 1 rfl) ?_
        refine va_ti (v := .int (sp_tb.getD (2 * v) 0)) hx hb hN.1 va_S.rf (vp_in_nI (by omega) (by decide)) (by rw [nI_clamp (by omega)]) dX0_isNameStart_17 ?_
        refine lv_icmp_lt (tgt := 34) hx hb dX0_isNameStart_18 (by decide) (fun c_18 => ?_) (fun c_18 => ?_)
        · refine rn_iinc (n := 2) (lv' := [(1, .int (nI (2 * v + 2))), (0, .int q)]) hx hb dX0_isNameStart_34 hl (k := 1) rfl (by decide) rfl (fun ls hl => ?_)
          refine lv_goto (tgt := 2) hx hb dX0_isNameStart_37 (by decide) ?_
          exact ih (v + 1) ls (by omega) (by omega) (by first | exact cn_ns_lo (by omega) hinv c_18 | exact cn_ns_hi (by omega) hinv c_29) (lv_sub hl [1, 0] rfl)
        · refine lv_iload_n hx hb dX0_isNameStart_21 rfl (lv_at hl 0 rfl) ?_
          refine va_gets hx hb hN.2 va_S.rf hown (hts (.fieldLink RX0 73 "NameNumbers" "NAME_STARTS" "[I") (by decide +kernel)) (fun _ h9 => h9) dX0_isNameStart_22 ?_
          refine lv_iload_n hx hb dX0_isNameStart_25 rfl (lv_at hl 1 rfl) ?_
          refine lv_iconst (v := nI 1) hx hb dX0_isNameStart_26 (by decide) ?_
          refine rn_iadd hx hb dX0_isNameStart_27 ?_
          refine va_ti (v := .int (sp_tb.getD (2 * v + 1) 0)) hx hb hN.1 va_S.rf (vp_in_nI (by omega) (by decide)) (by rw [nI_clamp (by omega)]) dX0_isNameStart_28 ?_
          refine lv_icmp_gt (tgt := 34) hx hb dX0_isNameStart_29 (by decide) (fun c_29 => ?_) (fun c_29 => ?_)
          · refine rn_iinc (n := 2) (lv' := [(1, .int (nI (2 * v + 2))), (0, .int q)]) hx hb dX0_isNameStart_34 hl (k := 1) rfl (by decide) rfl (fun ls hl => ?_)
            refine lv_goto (tgt := 2) hx hb dX0_isNameStart_37 (by decide) ?_
            exact ih (v + 1) ls (by omega) (by omega) (by first | exact cn_ns_lo (by omega) hinv c_18 | exact cn_ns_hi (by omega) hinv c_29) (lv_sub hl [1, 0] rfl)
          · refine lv_iconst (v := nI 1) hx hb dX0_isNameStart_32 (by decide) ?_
            exact pu_zret hx hb hr hlocks (by decide) (Or.inl ⟨rfl, cn_ns_yes (by omega) hinv c_18 c_29⟩) dX0_isNameStart_33
  refine lv_iconst (v := nI 0) hx hb dX0_isNameStart_0 (by decide) ?_
  refine lv_istore_n (lv' := [(1, .int (nI 0)), (0, .int q)]) hx hb dX0_isNameStart_1 rfl hl (by decide) rfl (fun ls hl => ?_)
  exact loop 17 0 ls (by omega) (Nat.zero_le _) rfl (lv_sub hl [1, 0] rfl)
set_option maxHeartbeats 4000000 in
set_option maxRecDepth 100000 in
/-- colon -/
theorem kx_colon (l : Launch) (D : va_G) {tys : List (ClassId × FieldType)} {cI : ClassId} (hty : tys[0]? = some (cI, .int)) (h0 hd hc hs : Nat) (wr : va_W) (dr ch st : Nat → Int32) (n rc : Nat) (S : Nat → Nat) (hR : cn_S st rc S) (t : Nat) (k : Int32) : Met l yX0_colon wsX0_colon ({ frames := 1, cells := 0, slots := 0, locals := 30 }) (pz_Pc D vwCl (cn_W cI h0 hd hc hs wr dr ch st n rc) tys (cn_NS t) [.ref h0, .int k]) (vp_Si (fun r => r = sp_colon (cn_rows ch S 1 rc) k)) 0 0 (fun _ => False) := by
  refine pz_of (cc := cX0_colon) (maxL := 7) (ret := some .int) (own := RX0) (by decide) rfl rfl (Nat.le_of_ble_eq_true rfl) ?_
  intro p e s m below meth c hx hb hr hts hown hlocks hml hP hK hN ls hl
  have hl : lv_has ls 7 [(0, .ref h0), (1, .int k)] := hl
  have hin0 : ∀ w ∈ u_ws RX0 TX0 5, w ∈ wsX0_colon := by decide +kernel
  have f17 := hts (.fieldLink RX0 17 "NameNumbers" "characters" "[I") (by decide +kernel)
  have f20 := hts (.fieldLink RX0 20 "NameNumbers" "starts" "[I") (by decide +kernel)
  refine lv_aload_n hx hb dX0_colon_0 rfl (lv_at hl 0 rfl) ?_
  refine lv_iload_n hx hb dX0_colon_1 rfl (lv_at hl 1 rfl) ?_
  refine vp_callSi (W.runV (As := [.int k]) (rest := []) ⟨hx, hb, hml, hown, hts⟩ (kx_isRow l D hty h0 hd hc hs wr dr ch st n rc hR.2.2.2.2 k) (cwV 1 hts gX0_colon_X0_isRow rfl rfl rfl (by decide +kernel) ⟨Nat.le_of_ble_eq_true rfl, Nat.le_of_ble_eq_true rfl⟩) (pu_preV hK hP 0 rfl rfl) rfl rfl hl.1 rfl (lv_room (Nat.le_of_ble_eq_true rfl)) dX0_colon_2 ⟨Nat.zero_le _, Nat.zero_le _⟩) (fun r2 er2 => ?_)
  rcases er2 with ⟨er2, hk_k⟩ | ⟨er2, hk_k⟩
  · subst er2
    obtain ⟨k', h1_k, h2_k, rfl⟩ := hk_k
    have hw_k := cn_row_yes (ch := ch) hR h1_k h2_k
    refine lv_if_ne (tgt := 11) hx hb dX0_colon_5 (by decide) (fun c_5 => ?_) (fun c_5 => absurd c_5 (by decide))
    have htk := cn_top hR (k := k' + 1) (by omega) (by omega)
    have hlk := hR.2.2.1 k' h1_k h2_k
    refine lv_aload_n hx hb dX0_colon_11 rfl (lv_at hl 0 rfl) ?_
    refine va_get (D := D) (ci := 0) (v := .ref hs) (C := RX0) (T := TX0) (N := 5) hx hb hts hin0 hown hK hP 0 rfl rfl 3 (by decide) f20 (fun _ h9 => h9) rfl dX0_colon_12 ?_
    refine lv_iload_n hx hb dX0_colon_15 rfl (lv_at hl 1 rfl) ?_
    refine rn_ald (v := nI (S k')) hx hb hK hP 3 0 rfl hty (by have := hR.2.2.2.2; omega) (by decide) (hR.2.1 _ (by omega) (by omega)) dX0_colon_16 ?_
    refine lv_istore_n (lv' := [(2, .int (nI (S k'))), (0, .ref h0), (1, .int (nI k'))]) hx hb dX0_colon_17 rfl hl (by decide) rfl (fun ls hl => ?_)
    refine lv_aload_n hx hb dX0_colon_18 rfl (lv_at hl 1 rfl) ?_
    refine va_get (D := D) (ci := 0) (v := .ref hs) (C := RX0) (T := TX0) (N := 5) hx hb hts hin0 hown hK hP 0 rfl rfl 3 (by decide) f20 (fun _ h9 => h9) rfl dX0_colon_19 ?_
    refine lv_iload_n hx hb dX0_colon_22 rfl (lv_at hl 2 rfl) ?_
    refine lv_iconst (v := nI 1) hx hb dX0_colon_23 (by decide) ?_
    refine rn_iadd hx hb dX0_colon_24 ?_
    refine rn_ald (v := nI (S (k' + 1))) hx hb hK hP 3 0 rfl hty (by have := hR.2.2.2.2; omega) (by decide) (hR.2.1 _ (by omega) (by omega)) dX0_colon_25 ?_
    refine lv_istore_n (lv' := [(3, .int (nI (S (k' + 1)))), (2, .int (nI (S k'))), (0, .ref h0), (1, .int (nI k'))]) hx hb dX0_colon_26 rfl hl (by decide) rfl (fun ls hl => ?_)
    refine lv_aload_n hx hb dX0_colon_27 rfl (lv_at hl 2 rfl) ?_
    refine lv_iload_n hx hb dX0_colon_28 rfl (lv_at hl 1 rfl) ?_
    refine lv_iload_n hx hb dX0_colon_29 rfl (lv_at hl 0 rfl) ?_
    refine vp_callSi (W.runV (As := [.int (nI (S k')), .int (nI (S (k' + 1)))]) (rest := []) ⟨hx, hb, hml, hown, hts⟩ (kx_findColon l D hty h0 hd hc hs wr dr ch st n rc (S k') (S (k' + 1)) (by omega) htk) (cwV 2 hts gX0_colon_X0_findColon rfl rfl rfl (by decide +kernel) ⟨Nat.le_of_ble_eq_true rfl, Nat.le_of_ble_eq_true rfl⟩) (pu_preV hK hP 0 rfl rfl) rfl rfl hl.1 rfl (lv_room (Nat.le_of_ble_eq_true rfl)) dX0_colon_30 ⟨Nat.zero_le _, Nat.zero_le _⟩) (fun r30 er30 => ?_)
    obtain ⟨P, eP⟩ : ∃ z, z = sp_ix (sp_sl ch (S k') (S (k' + 1) - (S k'))) := ⟨_, rfl⟩
    rw [← eP] at er30
    subst er30
    have lP := sp_ix_le (sp_sl ch (S k') (S (k' + 1) - (S k')))
    rw [sp_len, ← eP] at lP
    refine lv_istore (lv' := [(4, .int (nI (S k' + P))), (3, .int (nI (S (k' + 1)))), (2, .int (nI (S k'))), (0, .ref h0), (1, .int (nI k'))]) hx hb dX0_colon_33 hl (by decide) rfl (fun ls hl => ?_)
    refine lv_iload hx hb dX0_colon_35 (lv_at hl 0 rfl) ?_
    refine lv_iload_n hx hb dX0_colon_37 rfl (lv_at hl 1 rfl) ?_
    refine rn_icmp_ne (tgt := 43) hx hb (by omega) (by omega) dX0_colon_38 (by decide) (fun c_38 => ?_) (fun c_38 => ?_)
    · refine lv_aload_n hx hb dX0_colon_43 rfl (lv_at hl 3 rfl) ?_
      refine lv_iload hx hb dX0_colon_44 (lv_at hl 0 rfl) ?_
      refine lv_iconst (v := nI 1) hx hb dX0_colon_46 (by decide) ?_
      refine rn_iadd hx hb dX0_colon_47 ?_
      refine lv_iload_n hx hb dX0_colon_48 rfl (lv_at hl 1 rfl) ?_
      refine vp_callSi (W.runV (As := [.int (nI (S k' + P + 1)), .int (nI (S (k' + 1)))]) (rest := []) ⟨hx, hb, hml, hown, hts⟩ (kx_findColon l D hty h0 hd hc hs wr dr ch st n rc (S k' + P + 1) (S (k' + 1)) (by omega) htk) (cwV 2 hts gX0_colon_X0_findColon rfl rfl rfl (by decide +kernel) ⟨Nat.le_of_ble_eq_true rfl, Nat.le_of_ble_eq_true rfl⟩) (pu_preV hK hP 0 rfl rfl) rfl rfl hl.1 rfl (lv_room (Nat.le_of_ble_eq_true rfl)) dX0_colon_49 ⟨Nat.zero_le _, Nat.zero_le _⟩) (fun r49 er49 => ?_)
      obtain ⟨P2, eP2⟩ : ∃ z, z = sp_ix (sp_sl ch (S k' + P + 1) (S (k' + 1) - (S k' + P + 1))) := ⟨_, rfl⟩
      rw [← eP2] at er49
      subst er49
      have lP2 := sp_ix_le (sp_sl ch (S k' + P + 1) (S (k' + 1) - (S k' + P + 1)))
      rw [sp_len, ← eP2] at lP2
      refine lv_iload_n hx hb dX0_colon_52 rfl (lv_at hl 1 rfl) ?_
      refine rn_icmp_ne (tgt := 60) hx hb (by omega) (by omega) dX0_colon_53 (by decide) (fun c_53 => ?_) (fun c_53 => ?_)
      · refine lv_iconst (v := nI 0) hx hb dX0_colon_60 (by decide) ?_
        refine lv_istore (lv' := [(5, .int (nI 0)), (4, .int (nI (S k' + P))), (3, .int (nI (S (k' + 1)))), (2, .int (nI (S k'))), (0, .ref h0), (1, .int (nI k'))]) hx hb dX0_colon_61 hl (by decide) rfl (fun ls hl => ?_)
        refine lv_iload hx hb dX0_colon_63 (lv_at hl 1 rfl) ?_
        refine lv_iload_n hx hb dX0_colon_65 rfl (lv_at hl 3 rfl) ?_
        refine rn_icmp_le (tgt := 96) hx hb (by omega) (by omega) dX0_colon_66 (by decide) (fun c_66 => ?_) (fun c_66 => ?_)
        · refine lv_iconst (v := nI 0) hx hb dX0_colon_96 (by decide) ?_
          refine lv_istore (lv' := [(6, .int (nI 0)), (5, .int (nI 0)), (4, .int (nI (S k' + P))), (3, .int (nI (S (k' + 1)))), (2, .int (nI (S k'))), (0, .ref h0), (1, .int (nI k'))]) hx hb dX0_colon_97 hl (by decide) rfl (fun ls hl => ?_)
          refine lv_iload hx hb dX0_colon_99 (lv_at hl 1 rfl) ?_
          refine lv_if_eq (tgt := 116) hx hb dX0_colon_101 (by decide) (fun c_101 => ?_) (fun c_101 => absurd c_101 (not_not_intro (by decide)))
          refine lv_iconst (v := (-1)) hx hb dX0_colon_116 (by decide) ?_
          exact pu_iret hx hb hr hlocks (by rw [sp_colon, hw_k]; first | exact cn_co_no1 eP eP2 (by omega) (by omega) | exact cn_co_no2 eP (by omega) (by omega) | exact cn_co_no3 eP (by omega) hns) dX0_colon_117
        · refine lv_iload hx hb dX0_colon_69 (lv_at hl 1 rfl) ?_
          refine lv_iconst (v := nI 1) hx hb dX0_colon_71 (by decide) ?_
          refine rn_iadd hx hb dX0_colon_72 ?_
          refine lv_iload_n hx hb dX0_colon_73 rfl (lv_at hl 2 rfl) ?_
          refine rn_icmp_ge (tgt := 96) hx hb (by omega) (by omega) dX0_colon_74 (by decide) (fun c_74 => ?_) (fun c_74 => ?_)
          · refine lv_iconst (v := nI 0) hx hb dX0_colon_96 (by decide) ?_
            refine lv_istore (lv' := [(6, .int (nI 0)), (5, .int (nI 0)), (4, .int (nI (S k' + P))), (3, .int (nI (S (k' + 1)))), (2, .int (nI (S k'))), (0, .ref h0), (1, .int (nI k'))]) hx hb dX0_colon_97 hl (by decide) rfl (fun ls hl => ?_)
            refine lv_iload hx hb dX0_colon_99 (lv_at hl 1 rfl) ?_
            refine lv_if_eq (tgt := 116) hx hb dX0_colon_101 (by decide) (fun c_101 => ?_) (fun c_101 => absurd c_101 (not_not_intro (by decide)))
            refine lv_iconst (v := (-1)) hx hb dX0_colon_116 (by decide) ?_
            exact pu_iret hx hb hr hlocks (by rw [sp_colon, hw_k]; first | exact cn_co_no1 eP eP2 (by omega) (by omega) | exact cn_co_no2 eP (by omega) (by omega) | exact cn_co_no3 eP (by omega) hns) dX0_colon_117
          · refine lv_aload_n hx hb dX0_colon_77 rfl (lv_at hl 4 rfl) ?_
            refine va_get (D := D) (ci := 0) (v := .ref hc) (C := RX0) (T := TX0) (N := 5) hx hb hts hin0 hown hK hP 0 rfl rfl 2 (by decide) f17 (fun _ h9 => h9) rfl dX0_colon_78 ?_
            refine lv_iload hx hb dX0_colon_81 (lv_at hl 1 rfl) ?_
            refine lv_iconst (v := nI 1) hx hb dX0_colon_83 (by decide) ?_
            refine rn_iadd hx hb dX0_colon_84 ?_
            refine rn_ald (v := (ch (S k' + P + 1))) hx hb hK hP 2 0 rfl hty (by omega) (by decide) (rfl) dX0_colon_85 ?_
            refine vp_callSi (W.runS (As := [.int (ch (S k' + P + 1))]) (rest := []) ⟨hx, hb, hml, hown, hts⟩ (kx_isNameStart l D (cn_W cI h0 hd hc hs wr dr ch st n rc) t (ch (S k' + P + 1))) (va_cwS 1 hts gX0_colon_X0_isNameStart rfl rfl rfl (by decide +kernel) ⟨Nat.le_of_ble_eq_true rfl, Nat.le_of_ble_eq_true rfl⟩) (pz_preS (cn_NS_E t) hK hP (fun U hU hv => cn_NS_E t s U hv hU hN)) rfl rfl hl.1 rfl (lv_room (Nat.le_of_ble_eq_true rfl)) dX0_colon_86 ⟨Nat.zero_le _, Nat.zero_le _⟩) (fun r86 er86 => ?_)
            rcases er86 with ⟨er86, hns⟩ | ⟨er86, hns⟩
            · subst er86
              refine lv_if_eq (tgt := 96) hx hb dX0_colon_89 (by decide) (fun c_89 => absurd c_89 (by decide)) (fun c_89 => ?_)
              refine lv_iconst (v := nI 1) hx hb dX0_colon_92 (by decide) ?_
              refine lv_goto (tgt := 97) hx hb dX0_colon_93 (by decide) ?_
              refine lv_istore (lv' := [(6, .int (nI 1)), (5, .int (nI 0)), (4, .int (nI (S k' + P))), (3, .int (nI (S (k' + 1)))), (2, .int (nI (S k'))), (0, .ref h0), (1, .int (nI k'))]) hx hb dX0_colon_97 hl (by decide) rfl (fun ls hl => ?_)
              refine lv_iload hx hb dX0_colon_99 (lv_at hl 1 rfl) ?_
              refine lv_if_eq (tgt := 116) hx hb dX0_colon_101 (by decide) (fun c_101 => ?_) (fun c_101 => absurd c_101 (not_not_intro (by decide)))
              refine lv_iconst (v := (-1)) hx hb dX0_colon_116 (by decide) ?_
              exact pu_iret hx hb hr hlocks (by rw [sp_colon, hw_k]; first | exact cn_co_no1 eP eP2 (by omega) (by omega) | exact cn_co_no2 eP (by omega) (by omega) | exact cn_co_no3 eP (by omega) hns) dX0_colon_117
            · subst er86
              refine lv_if_eq (tgt := 96) hx hb dX0_colon_89 (by decide) (fun c_89 => ?_) (fun c_89 => absurd c_89 (not_not_intro (by decide)))
              refine lv_iconst (v := nI 0) hx hb dX0_colon_96 (by decide) ?_
              refine lv_istore (lv' := [(6, .int (nI 0)), (5, .int (nI 0)), (4, .int (nI (S k' + P))), (3, .int (nI (S (k' + 1)))), (2, .int (nI (S k'))), (0, .ref h0), (1, .int (nI k'))]) hx hb dX0_colon_97 hl (by decide) rfl (fun ls hl => ?_)
              refine lv_iload hx hb dX0_colon_99 (lv_at hl 1 rfl) ?_
              refine lv_if_eq (tgt := 116) hx hb dX0_colon_101 (by decide) (fun c_101 => ?_) (fun c_101 => absurd c_101 (not_not_intro (by decide)))
              refine lv_iconst (v := (-1)) hx hb dX0_colon_116 (by decide) ?_
              exact pu_iret hx hb hr hlocks (by rw [sp_colon, hw_k]; first | exact cn_co_no1 eP eP2 (by omega) (by omega) | exact cn_co_no2 eP (by omega) (by omega) | exact cn_co_no3 eP (by omega) hns) dX0_colon_117
      · refine lv_iconst (v := nI 1) hx hb dX0_colon_56 (by decide) ?_
        refine lv_goto (tgt := 61) hx hb dX0_colon_57 (by decide) ?_
        refine lv_istore (lv' := [(5, .int (nI 1)), (4, .int (nI (S k' + P))), (3, .int (nI (S (k' + 1)))), (2, .int (nI (S k'))), (0, .ref h0), (1, .int (nI k'))]) hx hb dX0_colon_61 hl (by decide) rfl (fun ls hl => ?_)
        refine lv_iload hx hb dX0_colon_63 (lv_at hl 1 rfl) ?_
        refine lv_iload_n hx hb dX0_colon_65 rfl (lv_at hl 3 rfl) ?_
        refine rn_icmp_le (tgt := 96) hx hb (by omega) (by omega) dX0_colon_66 (by decide) (fun c_66 => ?_) (fun c_66 => ?_)
        · refine lv_iconst (v := nI 0) hx hb dX0_colon_96 (by decide) ?_
          refine lv_istore (lv' := [(6, .int (nI 0)), (5, .int (nI 1)), (4, .int (nI (S k' + P))), (3, .int (nI (S (k' + 1)))), (2, .int (nI (S k'))), (0, .ref h0), (1, .int (nI k'))]) hx hb dX0_colon_97 hl (by decide) rfl (fun ls hl => ?_)
          refine lv_iload hx hb dX0_colon_99 (lv_at hl 1 rfl) ?_
          refine lv_if_eq (tgt := 116) hx hb dX0_colon_101 (by decide) (fun c_101 => absurd c_101 (by decide)) (fun c_101 => ?_)
          refine lv_iload hx hb dX0_colon_104 (lv_at hl 0 rfl) ?_
          refine lv_if_eq (tgt := 116) hx hb dX0_colon_106 (by decide) (fun c_106 => ?_) (fun c_106 => absurd c_106 (not_not_intro (by decide)))
          refine lv_iconst (v := (-1)) hx hb dX0_colon_116 (by decide) ?_
          exact pu_iret hx hb hr hlocks (by rw [sp_colon, hw_k]; first | exact cn_co_no1 eP eP2 (by omega) (by omega) | exact cn_co_no2 eP (by omega) (by omega) | exact cn_co_no3 eP (by omega) hns) dX0_colon_117
        · refine lv_iload hx hb dX0_colon_69 (lv_at hl 1 rfl) ?_
          refine lv_iconst (v := nI 1) hx hb dX0_colon_71 (by decide) ?_
          refine rn_iadd hx hb dX0_colon_72 ?_
          refine lv_iload_n hx hb dX0_colon_73 rfl (lv_at hl 2 rfl) ?_
          refine rn_icmp_ge (tgt := 96) hx hb (by omega) (by omega) dX0_colon_74 (by decide) (fun c_74 => ?_) (fun c_74 => ?_)
          · refine lv_iconst (v := nI 0) hx hb dX0_colon_96 (by decide) ?_
            refine lv_istore (lv' := [(6, .int (nI 0)), (5, .int (nI 1)), (4, .int (nI (S k' + P))), (3, .int (nI (S (k' + 1)))), (2, .int (nI (S k'))), (0, .ref h0), (1, .int (nI k'))]) hx hb dX0_colon_97 hl (by decide) rfl (fun ls hl => ?_)
            refine lv_iload hx hb dX0_colon_99 (lv_at hl 1 rfl) ?_
            refine lv_if_eq (tgt := 116) hx hb dX0_colon_101 (by decide) (fun c_101 => absurd c_101 (by decide)) (fun c_101 => ?_)
            refine lv_iload hx hb dX0_colon_104 (lv_at hl 0 rfl) ?_
            refine lv_if_eq (tgt := 116) hx hb dX0_colon_106 (by decide) (fun c_106 => ?_) (fun c_106 => absurd c_106 (not_not_intro (by decide)))
            refine lv_iconst (v := (-1)) hx hb dX0_colon_116 (by decide) ?_
            exact pu_iret hx hb hr hlocks (by rw [sp_colon, hw_k]; first | exact cn_co_no1 eP eP2 (by omega) (by omega) | exact cn_co_no2 eP (by omega) (by omega) | exact cn_co_no3 eP (by omega) hns) dX0_colon_117
          · refine lv_aload_n hx hb dX0_colon_77 rfl (lv_at hl 4 rfl) ?_
            refine va_get (D := D) (ci := 0) (v := .ref hc) (C := RX0) (T := TX0) (N := 5) hx hb hts hin0 hown hK hP 0 rfl rfl 2 (by decide) f17 (fun _ h9 => h9) rfl dX0_colon_78 ?_
            refine lv_iload hx hb dX0_colon_81 (lv_at hl 1 rfl) ?_
            refine lv_iconst (v := nI 1) hx hb dX0_colon_83 (by decide) ?_
            refine rn_iadd hx hb dX0_colon_84 ?_
            refine rn_ald (v := (ch (S k' + P + 1))) hx hb hK hP 2 0 rfl hty (by omega) (by decide) (rfl) dX0_colon_85 ?_
            refine vp_callSi (W.runS (As := [.int (ch (S k' + P + 1))]) (rest := []) ⟨hx, hb, hml, hown, hts⟩ (kx_isNameStart l D (cn_W cI h0 hd hc hs wr dr ch st n rc) t (ch (S k' + P + 1))) (va_cwS 1 hts gX0_colon_X0_isNameStart rfl rfl rfl (by decide +kernel) ⟨Nat.le_of_ble_eq_true rfl, Nat.le_of_ble_eq_true rfl⟩) (pz_preS (cn_NS_E t) hK hP (fun U hU hv => cn_NS_E t s U hv hU hN)) rfl rfl hl.1 rfl (lv_room (Nat.le_of_ble_eq_true rfl)) dX0_colon_86 ⟨Nat.zero_le _, Nat.zero_le _⟩) (fun r86 er86 => ?_)
            rcases er86 with ⟨er86, hns⟩ | ⟨er86, hns⟩
            · subst er86
              refine lv_if_eq (tgt := 96) hx hb dX0_colon_89 (by decide) (fun c_89 => absurd c_89 (by decide)) (fun c_89 => ?_)
              refine lv_iconst (v := nI 1) hx hb dX0_colon_92 (by decide) ?_
              refine lv_goto (tgt := 97) hx hb dX0_colon_93 (by decide) ?_
              refine lv_istore (lv' := [(6, .int (nI 1)), (5, .int (nI 1)), (4, .int (nI (S k' + P))), (3, .int (nI (S (k' + 1)))), (2, .int (nI (S k'))), (0, .ref h0), (1, .int (nI k'))]) hx hb dX0_colon_97 hl (by decide) rfl (fun ls hl => ?_)
              refine lv_iload hx hb dX0_colon_99 (lv_at hl 1 rfl) ?_
              refine lv_if_eq (tgt := 116) hx hb dX0_colon_101 (by decide) (fun c_101 => absurd c_101 (by decide)) (fun c_101 => ?_)
              refine lv_iload hx hb dX0_colon_104 (lv_at hl 0 rfl) ?_
              refine lv_if_eq (tgt := 116) hx hb dX0_colon_106 (by decide) (fun c_106 => absurd c_106 (by decide)) (fun c_106 => ?_)
              refine lv_iload hx hb dX0_colon_109 (lv_at hl 2 rfl) ?_
              refine lv_iload_n hx hb dX0_colon_111 rfl (lv_at hl 4 rfl) ?_
              refine rn_isub hx hb (by omega) dX0_colon_112 ?_
              refine lv_goto (tgt := 117) hx hb dX0_colon_113 (by decide) ?_
              exact pu_iret hx hb hr hlocks (by rw [sp_colon, hw_k]; exact cn_co_yes eP eP2 (by omega) (by omega) (by omega) (by omega) hns) dX0_colon_117
            · subst er86
              refine lv_if_eq (tgt := 96) hx hb dX0_colon_89 (by decide) (fun c_89 => ?_) (fun c_89 => absurd c_89 (not_not_intro (by decide)))
              refine lv_iconst (v := nI 0) hx hb dX0_colon_96 (by decide) ?_
              refine lv_istore (lv' := [(6, .int (nI 0)), (5, .int (nI 1)), (4, .int (nI (S k' + P))), (3, .int (nI (S (k' + 1)))), (2, .int (nI (S k'))), (0, .ref h0), (1, .int (nI k'))]) hx hb dX0_colon_97 hl (by decide) rfl (fun ls hl => ?_)
              refine lv_iload hx hb dX0_colon_99 (lv_at hl 1 rfl) ?_
              refine lv_if_eq (tgt := 116) hx hb dX0_colon_101 (by decide) (fun c_101 => absurd c_101 (by decide)) (fun c_101 => ?_)
              refine lv_iload hx hb dX0_colon_104 (lv_at hl 0 rfl) ?_
              refine lv_if_eq (tgt := 116) hx hb dX0_colon_106 (by decide) (fun c_106 => ?_) (fun c_106 => absurd c_106 (not_not_intro (by decide)))
              refine lv_iconst (v := (-1)) hx hb dX0_colon_116 (by decide) ?_
              exact pu_iret hx hb hr hlocks (by rw [sp_colon, hw_k]; first | exact cn_co_no1 eP eP2 (by omega) (by omega) | exact cn_co_no2 eP (by omega) (by omega) | exact cn_co_no3 eP (by omega) hns) dX0_colon_117
    · refine lv_iconst (v := nI 0) hx hb dX0_colon_41 (by decide) ?_
      exact pu_iret hx hb hr hlocks (by rw [sp_colon, hw_k]; exact cn_co_0 eP (by omega)) dX0_colon_42
  · subst er2
    have hw_k := cn_row_no (ch := ch) hR hk_k
    refine lv_if_ne (tgt := 11) hx hb dX0_colon_5 (by decide) (fun c_5 => absurd c_5 (not_not_intro (by decide))) (fun c_5 => ?_)
    refine lv_bipush (v := (-2)) hx hb dX0_colon_8 (by decide) ?_
    exact pu_iret hx hb hr hlocks (by rw [sp_colon, hw_k]) dX0_colon_10
end
section
set_option maxHeartbeats 4000000 in
set_option maxRecDepth 100000 in
/-- the constructor: three arrays are made -/
theorem kx_init (l : Launch) (D : va_G) {tys : List (ClassId × FieldType)} {cI : ClassId} (hty : tys[0]? = some (cI, .int)) (h0 : Nat) (wr : va_W) (A : Nat → Prop) : Met l yX0_init wsX0_init ({ frames := 1, cells := 3, slots := 25002, locals := 20 }) (mk_Pc D vwCl ((h0, .inr (0, [.null, .int 0, .null, .null, .int 0])) :: wr) tys A [.ref h0]) (va_Qv (fun w => ∃ hd hc hs : Nat, w = (h0, .inr (0, [.ref hd, .int (nI 0), .ref hc, .ref hs, .int (nI 0)])) :: (((wr ++ [(hd, .inl (cI, 2000, .inl (fun _ => 0)))]) ++ [(hc, .inl (cI, 20000, .inl (fun _ => 0)))]) ++ [(hs, .inl (cI, 3002, .inl (fun _ => 0)))])) (mu_B D vwCl tys A) A) 3 25002 A := by
  refine mk_of (cc := cX0_init) (maxL := 1) (own := RX0) (by decide) rfl rfl rfl (Nat.le_of_ble_eq_true rfl) ?_
  intro p e s m below meth c hx hb hr hts hown hlocks hin hml hP hK hD hS hA ls hl
  have hl : lv_has ls 1 [(0, .ref h0)] := hl
  have hin0 : ∀ w ∈ u_ws RX0 TX0 5, w ∈ wsX0_init := by decide +kernel
  have f9 := hts (.fieldLink RX0 9 "NameNumbers" "draft" "[I") (by decide +kernel)
  have f13 := hts (.fieldLink RX0 13 "NameNumbers" "draftLength" "I") (by decide +kernel)
  have f17 := hts (.fieldLink RX0 17 "NameNumbers" "characters" "[I") (by decide +kernel)
  have f20 := hts (.fieldLink RX0 20 "NameNumbers" "starts" "[I") (by decide +kernel)
  have f23 := hts (.fieldLink RX0 23 "NameNumbers" "rowCount" "I") (by decide +kernel)
  have harr := hts (.arrayClass .int) (by decide +kernel)
  refine lv_aload_n hx hb dX0_init_0 rfl (lv_at hl 0 rfl) ?_
  refine W.objInit hx hb hown (hts (.methodLink RX0 1 objectInit) (by decide +kernel)) (hts (.instanceMethod objectInit) (by decide +kernel)) (hts _ (List.mem_of_getElem? (i := 3) rfl)) rfl (by rw [hml]; exact hl.1) rfl dX0_init_1 (Nat.le_of_ble_eq_true rfl) (Nat.le_of_ble_eq_true rfl) ?_
  refine W.eq (g2 := F0 m 4 ls []) rfl ?_
  refine lv_aload_n hx hb dX0_init_4 rfl (lv_at hl 0 rfl) ?_
  refine lv_sipush (v := nI 2000) hx hb dX0_init_5 (by decide) ?_
  refine rn_newa hx hb harr hK hty hP hD hS hA (by decide) (by decide) (Nat.le_of_ble_eq_true rfl) (Nat.le_of_ble_eq_true rfl) dX0_init_8 (fun hd H hP hD hS => ?_)
  have hP : va_P D vwCl ((h0, .inr (0, [.null, .int 0, .null, .null, .int 0])) :: (wr ++ [(hd, .inl (cI, 2000, .inl (fun _ => 0)))])) H := hP
  have hD : va_D A ((h0, .inr (0, [.null, .int 0, .null, .null, .int 0])) :: (wr ++ [(hd, .inl (cI, 2000, .inl (fun _ => 0)))])) := hD
  refine W.widen (k := 1) (n := 2000) (by omega) (by omega) ?_
  refine va_putF (D := D) (ci := 0) (v := .ref hd) (ty := .array .int) (C := RX0) (T := TX0) (N := 5) hx hb hts hin0 tyX0 tyX0_ok nmX0 hown hK hP hD hS 0 rfl rfl 0 (by decide) f9 (fun _ h9 => h9) rfl hin rfl (by decide +kernel) rfl rfl (Nat.le_of_ble_eq_true rfl) dX0_init_10 (fun H locs hP hD hS => ?_)
  have hP : va_P D vwCl ((h0, .inr (0, [.ref hd, .int 0, .null, .null, .int 0])) :: (wr ++ [(hd, .inl (cI, 2000, .inl (fun _ => 0)))])) H := hP
  have hD : va_D A ((h0, .inr (0, [.ref hd, .int 0, .null, .null, .int 0])) :: (wr ++ [(hd, .inl (cI, 2000, .inl (fun _ => 0)))])) := hD
  refine lv_aload_n hx hb dX0_init_13 rfl (lv_at hl 0 rfl) ?_
  refine lv_iconst (v := nI 0) hx hb dX0_init_14 (by decide) ?_
  refine va_put (D := D) (ci := 0) (v := .int (nI 0)) (ty := .int) (C := RX0) (T := TX0) (N := 5) hx hb hts hin0 tyX0 tyX0_ok nmX0 hown hK hP hD hS 0 rfl rfl 1 (by decide) f13 (fun _ h9 => h9) rfl (by decide +kernel) rfl rfl (Nat.le_of_ble_eq_true rfl) dX0_init_15 (fun H locs hP hD hS => ?_)
  have hP : va_P D vwCl ((h0, .inr (0, [.ref hd, .int (nI 0), .null, .null, .int 0])) :: (wr ++ [(hd, .inl (cI, 2000, .inl (fun _ => 0)))])) H := hP
  have hD : va_D A ((h0, .inr (0, [.ref hd, .int (nI 0), .null, .null, .int 0])) :: (wr ++ [(hd, .inl (cI, 2000, .inl (fun _ => 0)))])) := hD
  refine lv_aload_n hx hb dX0_init_18 rfl (lv_at hl 0 rfl) ?_
  refine lv_sipush (v := nI 20000) hx hb dX0_init_19 (by decide) ?_
  refine rn_newa hx hb harr hK hty hP hD hS hA (by decide) (by decide) (Nat.le_of_ble_eq_true rfl) (Nat.le_of_ble_eq_true rfl) dX0_init_22 (fun hc H hP hD hS => ?_)
  have hP : va_P D vwCl ((h0, .inr (0, [.ref hd, .int (nI 0), .null, .null, .int 0])) :: ((wr ++ [(hd, .inl (cI, 2000, .inl (fun _ => 0)))]) ++ [(hc, .inl (cI, 20000, .inl (fun _ => 0)))])) H := hP
  have hD : va_D A ((h0, .inr (0, [.ref hd, .int (nI 0), .null, .null, .int 0])) :: ((wr ++ [(hd, .inl (cI, 2000, .inl (fun _ => 0)))]) ++ [(hc, .inl (cI, 20000, .inl (fun _ => 0)))])) := hD
  refine W.widen (k := 2) (n := 22000) (by omega) (by omega) ?_
  refine va_putF (D := D) (ci := 0) (v := .ref hc) (ty := .array .int) (C := RX0) (T := TX0) (N := 5) hx hb hts hin0 tyX0 tyX0_ok nmX0 hown hK hP hD hS 0 rfl rfl 2 (by decide) f17 (fun _ h9 => h9) rfl hin rfl (by decide +kernel) rfl rfl (Nat.le_of_ble_eq_true rfl) dX0_init_24 (fun H locs hP hD hS => ?_)
  have hP : va_P D vwCl ((h0, .inr (0, [.ref hd, .int (nI 0), .ref hc, .null, .int 0])) :: ((wr ++ [(hd, .inl (cI, 2000, .inl (fun _ => 0)))]) ++ [(hc, .inl (cI, 20000, .inl (fun _ => 0)))])) H := hP
  have hD : va_D A ((h0, .inr (0, [.ref hd, .int (nI 0), .ref hc, .null, .int 0])) :: ((wr ++ [(hd, .inl (cI, 2000, .inl (fun _ => 0)))]) ++ [(hc, .inl (cI, 20000, .inl (fun _ => 0)))])) := hD
  refine lv_aload_n hx hb dX0_init_27 rfl (lv_at hl 0 rfl) ?_
  refine lv_sipush (v := nI 3002) hx hb dX0_init_28 (by decide) ?_
  refine rn_newa hx hb harr hK hty hP hD hS hA (by decide) (by decide) (Nat.le_of_ble_eq_true rfl) (Nat.le_of_ble_eq_true rfl) dX0_init_31 (fun hs H hP hD hS => ?_)
  have hP : va_P D vwCl ((h0, .inr (0, [.ref hd, .int (nI 0), .ref hc, .null, .int 0])) :: (((wr ++ [(hd, .inl (cI, 2000, .inl (fun _ => 0)))]) ++ [(hc, .inl (cI, 20000, .inl (fun _ => 0)))]) ++ [(hs, .inl (cI, 3002, .inl (fun _ => 0)))])) H := hP
  have hD : va_D A ((h0, .inr (0, [.ref hd, .int (nI 0), .ref hc, .null, .int 0])) :: (((wr ++ [(hd, .inl (cI, 2000, .inl (fun _ => 0)))]) ++ [(hc, .inl (cI, 20000, .inl (fun _ => 0)))]) ++ [(hs, .inl (cI, 3002, .inl (fun _ => 0)))])) := hD
  refine W.widen (k := 3) (n := 25002) (by omega) (by omega) ?_
  refine va_putF (D := D) (ci := 0) (v := .ref hs) (ty := .array .int) (C := RX0) (T := TX0) (N := 5) hx hb hts hin0 tyX0 tyX0_ok nmX0 hown hK hP hD hS 0 rfl rfl 3 (by decide) f20 (fun _ h9 => h9) rfl hin rfl (by decide +kernel) rfl rfl (Nat.le_of_ble_eq_true rfl) dX0_init_33 (fun H locs hP hD hS => ?_)
  have hP : va_P D vwCl ((h0, .inr (0, [.ref hd, .int (nI 0), .ref hc, .ref hs, .int 0])) :: (((wr ++ [(hd, .inl (cI, 2000, .inl (fun _ => 0)))]) ++ [(hc, .inl (cI, 20000, .inl (fun _ => 0)))]) ++ [(hs, .inl (cI, 3002, .inl (fun _ => 0)))])) H := hP
  have hD : va_D A ((h0, .inr (0, [.ref hd, .int (nI 0), .ref hc, .ref hs, .int 0])) :: (((wr ++ [(hd, .inl (cI, 2000, .inl (fun _ => 0)))]) ++ [(hc, .inl (cI, 20000, .inl (fun _ => 0)))]) ++ [(hs, .inl (cI, 3002, .inl (fun _ => 0)))])) := hD
  refine lv_aload_n hx hb dX0_init_36 rfl (lv_at hl 0 rfl) ?_
  refine lv_iconst (v := nI 0) hx hb dX0_init_37 (by decide) ?_
  refine va_put (D := D) (ci := 0) (v := .int (nI 0)) (ty := .int) (C := RX0) (T := TX0) (N := 5) hx hb hts hin0 tyX0 tyX0_ok nmX0 hown hK hP hD hS 0 rfl rfl 4 (by decide) f23 (fun _ h9 => h9) rfl (by decide +kernel) rfl rfl (Nat.le_of_ble_eq_true rfl) dX0_init_38 (fun H locs hP hD hS => ?_)
  have hP : va_P D vwCl ((h0, .inr (0, [.ref hd, .int (nI 0), .ref hc, .ref hs, .int (nI 0)])) :: (((wr ++ [(hd, .inl (cI, 2000, .inl (fun _ => 0)))]) ++ [(hc, .inl (cI, 20000, .inl (fun _ => 0)))]) ++ [(hs, .inl (cI, 3002, .inl (fun _ => 0)))])) H := hP
  have hD : va_D A ((h0, .inr (0, [.ref hd, .int (nI 0), .ref hc, .ref hs, .int (nI 0)])) :: (((wr ++ [(hd, .inl (cI, 2000, .inl (fun _ => 0)))]) ++ [(hc, .inl (cI, 20000, .inl (fun _ => 0)))]) ++ [(hs, .inl (cI, 3002, .inl (fun _ => 0)))])) := hD
  exact mk_vret hx hb hr hlocks hP hK hD hS ⟨hd, hc, hs, rfl⟩ dX0_init_41
end
section
/-! the reference: its rows lie as the class's do, S k is where row k begins -/
def md_S (ta le : Nat → Int32) (us rc : Nat) (S : Nat → Nat) : Prop := S 1 = 0 ∧ (∀ k, 1 ≤ k → k ≤ rc → ta k = nI (S k) ∧ le k = nI (S (k + 1) - S k)) ∧ (∀ k, 1 ≤ k → k ≤ rc → S k ≤ S (k + 1)) ∧ us = S (rc + 1) ∧ us ≤ 20000 ∧ rc ≤ 3000
theorem md_R {ta le : Nat → Int32} {us rc : Nat} {S : Nat → Nat} (h : md_S ta le us rc S) : cn_S (fun k => nI (S k)) rc S := ⟨h.1, fun _ _ _ => rfl, h.2.2.1, by rw [← h.2.2.2.1]; exact h.2.2.2.2.1, h.2.2.2.2.2⟩
/-- the order, as the reference tells it: -1 stands for 'no character' -/
theorem md_ord {sg : Nat → Int32} {a b n m i : Nat} {x y : Int32} (h1 : (n ≤ i ∧ x = -1) ∨ (i < n ∧ x = sg (a + i))) (h2 : (m ≤ i ∧ y = -1) ∨ (i < m ∧ y = sg (b + i))) (hinv : ∀ z, z < i → sg (a + z) = sg (b + z)) (hst : n ≤ i ∨ m ≤ i ∨ ¬ sg (a + i) = sg (b + i)) (hpu : ∀ z, z < n → ¬ sg (a + z) < 0) (hpv : ∀ z, z < m → ¬ sg (b + z) < 0) (hi1 : i ≤ n) (hi2 : i ≤ m) : sp_cmp (sp_sl sg a n) (sp_sl sg b m) = if x < y then -1 else if y < x then 1 else 0 := by
  have key : ∀ z : Int32, ¬ z < 0 → (-1 : Int32) < z ∧ ¬ z < -1 := by
    intro z hz
    rw [Int32.lt_iff_toInt_lt] at hz
    rw [Int32.lt_iff_toInt_lt, Int32.lt_iff_toInt_lt]
    have e0 : (0 : Int32).toInt = 0 := by decide
    have e1 : (-1 : Int32).toInt = -1 := by decide
    omega
  rcases h1 with ⟨h1, rfl⟩ | ⟨h1, rfl⟩
  · rcases h2 with ⟨h2, rfl⟩ | ⟨h2, rfl⟩
    · rw [cn_cmp_end _ _ _ _ (fun z q1 q2 => hinv z (by omega)), if_pos (show n = m by omega), if_neg Int32.lt_irrefl, if_neg Int32.lt_irrefl]
    · rw [cn_cmp_end _ _ _ _ (fun z q1 q2 => hinv z (by omega)), if_neg (show ¬ n = m by omega), if_pos (show n < m by omega), if_pos (key _ (hpv i h2)).1]
  · rcases h2 with ⟨h2, rfl⟩ | ⟨h2, rfl⟩
    · rw [cn_cmp_end _ _ _ _ (fun z q1 q2 => hinv z (by omega)), if_neg (show ¬ n = m by omega), if_neg (show ¬ n < m by omega), if_neg (key _ (hpu i h1)).2, if_pos (key _ (hpu i h1)).1]
    · have hne : ¬ sg (a + i) = sg (b + i) := by
        rcases hst with q | q | q
        · exact absurd h1 (by omega)
        · exact absurd h2 (by omega)
        · exact q
      rw [cn_cmp_diff i a b n m hinv h1 h2 hne]
      by_cases q : sg (a + i) < sg (b + i)
      · rw [if_pos q, if_pos q]
      · rw [if_neg q, if_neg q, if_pos]
        rw [Int32.lt_iff_toInt_lt] at q ⊢
        have : ¬ (sg (a + i)).toInt = (sg (b + i)).toInt := fun z => hne (Int32.toInt_inj.mp z)
        omega
def md_an (o : Option Nat) : Int32 := match o with
  | some k => nI k
  | none => nI 0
theorem md_fd_hit {F : Option Nat} {d : List Int32} {ch : Nat → Int32} {S : Nat → Nat} {k rc : Nat} (hk : k ≤ rc) (hinv : F = sp_fd d (cn_rows ch S k (rc + 1 - k)) k) (h : cn_row ch S k = d) : F = some k := by
  rw [hinv, show rc + 1 - k = (rc - k) + 1 by omega, cn_rows_cons, sp_fd, if_pos h]
theorem md_fd_end {F : Option Nat} {d : List Int32} {ch : Nat → Int32} {S : Nat → Nat} {k rc : Nat} (hk : rc < k) (hinv : F = sp_fd d (cn_rows ch S k (rc + 1 - k)) k) : F = none := by
  rw [hinv, show rc + 1 - k = 0 by omega, cn_rows_0]
  rfl
theorem sp_in_iff {c : Int32} : ∀ (m t0 : Nat), sp_in c t0 m = true ↔ ∃ t, t0 ≤ t ∧ t < t0 + m ∧ sp_tb.getD (2 * t) 0 ≤ c ∧ c ≤ sp_tb.getD (2 * t + 1) 0 := by
  intro m
  induction m with
  | zero => intro t0; simp only [sp_in]; constructor
            · intro h; cases h
            · rintro ⟨t, h1, h2, -⟩; omega
  | succ m ih =>
    intro t0
    rw [sp_in, Bool.or_eq_true, Bool.and_eq_true, decide_eq_true_eq, decide_eq_true_eq, ih]
    constructor
    · rintro (⟨h1, h2⟩ | ⟨t, h1, h2, h3⟩)
      · exact ⟨t0, Nat.le_refl _, by omega, h1, h2⟩
      · exact ⟨t, by omega, by omega, h3⟩
    · rintro ⟨t, h1, h2, h3, h4⟩
      by_cases q : t = t0
      · subst q; exact Or.inl ⟨h3, h4⟩
      · exact Or.inr ⟨t, by omega, by omega, h3, h4⟩
/-- c lies between lo and hi -/
def sp_bt (c lo hi : Int32) : Prop := lo ≤ c ∧ c ≤ hi
theorem sp_ns_of {c lo hi : Int32} (t : Nat) (ht : t < 16) (h : sp_bt c lo hi) (h1 : sp_tb.getD (2 * t) 0 ≤ lo) (h2 : hi ≤ sp_tb.getD (2 * t + 1) 0) : sp_ns c = true := by
  unfold sp_ns
  rw [sp_in_iff]
  refine ⟨t, Nat.zero_le _, by omega, ?_, ?_⟩
  · exact Int32.le_trans h1 h.1
  · exact Int32.le_trans h.2 h2
theorem sp_ns_not {c : Int32} (h : ∀ t, t < 16 → ¬ sp_bt c (sp_tb.getD (2 * t) 0) (sp_tb.getD (2 * t + 1) 0)) : sp_ns c = false := by
  cases hn : sp_ns c with
  | false => rfl
  | true =>
    unfold sp_ns at hn
    rw [sp_in_iff] at hn
    obtain ⟨t, -, h2, h3, h4⟩ := hn
    exact absurd ⟨h3, h4⟩ (h t (by omega))
theorem sp_bt_two {c : Int32} {a : Nat} (ha : a + 1 < 2 ^ 31) (h1 : ¬ c = nI a) (h2 : ¬ c = nI (a + 1)) : ¬ sp_bt c (nI a) (nI (a + 1)) := by
  rintro ⟨q1, q2⟩
  rw [Int32.le_iff_toInt_le, nI_toInt (by omega)] at q1
  rw [Int32.le_iff_toInt_le, nI_toInt ha] at q2
  have g1 : ¬ c.toInt = (a : Int) := fun z => h1 (Int32.toInt_inj.mp (by rw [nI_toInt (by omega)]; exact z))
  have g2 : ¬ c.toInt = ((a + 1 : Nat) : Int) := fun z => h2 (Int32.toInt_inj.mp (by rw [nI_toInt ha]; exact z))
  omega
theorem sp_bt_one {c : Int32} {a : Nat} (ha : a < 2 ^ 31) (h1 : ¬ c = nI a) : ¬ sp_bt c (nI a) (nI a) := by
  rintro ⟨q1, q2⟩
  exact h1 (Int32.le_antisymm q2 q1)
end
section
abbrev cX1_part : ByteArray := prog_3_method_19_code
def yX1_part : MethodName := ⟨RX1, "part", "(III)I"⟩
abbrev cX1_next : ByteArray := prog_3_method_20_code
def yX1_next : MethodName := ⟨RX1, "next", "(I)I"⟩
abbrev cX1_clear : ByteArray := prog_3_method_21_code
def yX1_clear : MethodName := ⟨RX1, "clear", "()I"⟩
def wsX1_part : List Cond := .code yX1_part cX1_part 5 (some .int) :: ([.fieldLink RX1 16 "NameNumbersModel" "lengths" "[I", .fieldLink RX1 33 "NameNumbersModel" "soughtLength" "I", .fieldLink RX1 22 "NameNumbersModel" "sought" "[I", .fieldLink RX1 7 "NameNumbersModel" "signs" "[I", .fieldLink RX1 13 "NameNumbersModel" "starts" "[I", .methodLink RX1 49 yX1_isRow, .instanceMethod yX1_isRow, .selects RX1 yX1_isRow yX1_isRow, .initialized RX1, .code yX1_isRow cX1_isRow 2 (some .boolean), .fieldLink RX1 30 "NameNumbersModel" "rows" "I", .methodLink RX1 46 yX1_get, .instanceMethod yX1_get, .selects RX1 yX1_get yX1_get, .code yX1_get cX1_get 3 (some .int), .fieldLink RX1 40 "NameNumbersModel" "used" "I", .methodLink RX1 36 yX1_find, .instanceMethod yX1_find, .selects RX1 yX1_find yX1_find, .code yX1_find cX1_find 5 (some .int)] ++ wsX10)
set_option maxRecDepth 20000 in
theorem ggX1_part_X1_isRow : GoodIn wsX1_part wsX1_isRow := goodIn_r _ [10, 11, 21, 22, 23, 24, 25, 26, 27, 28, 29] (by decide +kernel) (by decide +kernel)
set_option maxRecDepth 20000 in
theorem gX1_part_X1_isRow : GoodIn wsX1_part (wsV RX1 49 RX1 yX1_isRow wsX1_isRow) := goodIn_app (goodIn_of _ (by decide +kernel)) ggX1_part_X1_isRow
set_option maxRecDepth 20000 in
theorem ggX1_part_X1_get : GoodIn wsX1_part wsX1_get := goodIn_r _ [15, 11, 16, 2, 5, 1, 4, 3, 17, 18, 19, 9, 20, 21, 22, 23, 24, 25, 26, 27, 28, 29] (by decide +kernel) (by decide +kernel)
set_option maxRecDepth 20000 in
theorem gX1_part_X1_get : GoodIn wsX1_part (wsV RX1 46 RX1 yX1_get wsX1_get) := goodIn_app (goodIn_of _ (by decide +kernel)) ggX1_part_X1_get
theorem dX1_part_0 : decode cX1_part 0 = .ok (.aload_n 0, 1) := by decide +kernel
theorem dX1_part_1 : decode cX1_part 1 = .ok (.iload_n 1, 1) := by decide +kernel
theorem dX1_part_2 : decode cX1_part 2 = .ok (.invokevirtual 49, 3) := by decide +kernel
theorem dX1_part_5 : decode cX1_part 5 = .ok (.ifCond .eq 33, 3) := by decide +kernel
theorem dX1_part_8 : decode cX1_part 8 = .ok (.iload_n 2, 1) := by decide +kernel
theorem dX1_part_9 : decode cX1_part 9 = .ok (.ifCond .lt 29, 3) := by decide +kernel
theorem dX1_part_12 : decode cX1_part 12 = .ok (.iload_n 3, 1) := by decide +kernel
theorem dX1_part_13 : decode cX1_part 13 = .ok (.ifCond .lt 25, 3) := by decide +kernel
theorem dX1_part_16 : decode cX1_part 16 = .ok (.iload_n 2, 1) := by decide +kernel
theorem dX1_part_17 : decode cX1_part 17 = .ok (.aload_n 0, 1) := by decide +kernel
theorem dX1_part_18 : decode cX1_part 18 = .ok (.getfield 16, 3) := by decide +kernel
theorem dX1_part_21 : decode cX1_part 21 = .ok (.iload_n 1, 1) := by decide +kernel
theorem dX1_part_22 : decode cX1_part 22 = .ok (.iaload, 1) := by decide +kernel
theorem dX1_part_23 : decode cX1_part 23 = .ok (.if_icmp .gt 15, 3) := by decide +kernel
theorem dX1_part_26 : decode cX1_part 26 = .ok (.iload_n 3, 1) := by decide +kernel
theorem dX1_part_27 : decode cX1_part 27 = .ok (.aload_n 0, 1) := by decide +kernel
theorem dX1_part_28 : decode cX1_part 28 = .ok (.getfield 16, 3) := by decide +kernel
theorem dX1_part_31 : decode cX1_part 31 = .ok (.iload_n 1, 1) := by decide +kernel
theorem dX1_part_32 : decode cX1_part 32 = .ok (.iaload, 1) := by decide +kernel
theorem dX1_part_33 : decode cX1_part 33 = .ok (.iload_n 2, 1) := by decide +kernel
theorem dX1_part_34 : decode cX1_part 34 = .ok (.isub, 1) := by decide +kernel
theorem dX1_part_35 : decode cX1_part 35 = .ok (.if_icmp .le 5, 3) := by decide +kernel
theorem dX1_part_38 : decode cX1_part 38 = .ok (.iconst (-1), 1) := by decide +kernel
theorem dX1_part_39 : decode cX1_part 39 = .ok (.ireturn, 1) := by decide +kernel
theorem dX1_part_40 : decode cX1_part 40 = .ok (.aload_n 0, 1) := by decide +kernel
theorem dX1_part_41 : decode cX1_part 41 = .ok (.iload_n 3, 1) := by decide +kernel
theorem dX1_part_42 : decode cX1_part 42 = .ok (.putfield 33, 3) := by decide +kernel
theorem dX1_part_45 : decode cX1_part 45 = .ok (.iconst 0, 1) := by decide +kernel
theorem dX1_part_46 : decode cX1_part 46 = .ok (.istore 4, 2) := by decide +kernel
theorem dX1_part_48 : decode cX1_part 48 = .ok (.iload 4, 2) := by decide +kernel
theorem dX1_part_50 : decode cX1_part 50 = .ok (.iload_n 3, 1) := by decide +kernel
theorem dX1_part_51 : decode cX1_part 51 = .ok (.if_icmp .ge 32, 3) := by decide +kernel
theorem dX1_part_54 : decode cX1_part 54 = .ok (.aload_n 0, 1) := by decide +kernel
theorem dX1_part_55 : decode cX1_part 55 = .ok (.getfield 22, 3) := by decide +kernel
theorem dX1_part_58 : decode cX1_part 58 = .ok (.iload 4, 2) := by decide +kernel
theorem dX1_part_60 : decode cX1_part 60 = .ok (.aload_n 0, 1) := by decide +kernel
theorem dX1_part_61 : decode cX1_part 61 = .ok (.getfield 7, 3) := by decide +kernel
theorem dX1_part_64 : decode cX1_part 64 = .ok (.aload_n 0, 1) := by decide +kernel
theorem dX1_part_65 : decode cX1_part 65 = .ok (.getfield 13, 3) := by decide +kernel
theorem dX1_part_68 : decode cX1_part 68 = .ok (.iload_n 1, 1) := by decide +kernel
theorem dX1_part_69 : decode cX1_part 69 = .ok (.iaload, 1) := by decide +kernel
theorem dX1_part_70 : decode cX1_part 70 = .ok (.iload_n 2, 1) := by decide +kernel
theorem dX1_part_71 : decode cX1_part 71 = .ok (.iadd, 1) := by decide +kernel
theorem dX1_part_72 : decode cX1_part 72 = .ok (.iload 4, 2) := by decide +kernel
theorem dX1_part_74 : decode cX1_part 74 = .ok (.iadd, 1) := by decide +kernel
theorem dX1_part_75 : decode cX1_part 75 = .ok (.iaload, 1) := by decide +kernel
theorem dX1_part_76 : decode cX1_part 76 = .ok (.iastore, 1) := by decide +kernel
theorem dX1_part_77 : decode cX1_part 77 = .ok (.iinc 4 1, 3) := by decide +kernel
theorem dX1_part_80 : decode cX1_part 80 = .ok (.goto (-32), 3) := by decide +kernel
theorem dX1_part_83 : decode cX1_part 83 = .ok (.aload_n 0, 1) := by decide +kernel
theorem dX1_part_84 : decode cX1_part 84 = .ok (.invokevirtual 46, 3) := by decide +kernel
theorem dX1_part_87 : decode cX1_part 87 = .ok (.ireturn, 1) := by decide +kernel
def wsX1_next : List Cond := .code yX1_next cX1_next 4 (some .int) :: ([.fieldLink RX1 30 "NameNumbersModel" "rows" "I", .methodLink RX1 49 yX1_isRow, .instanceMethod yX1_isRow, .selects RX1 yX1_isRow yX1_isRow, .initialized RX1, .code yX1_isRow cX1_isRow 2 (some .boolean), .methodLink RX1 53 yX1_order, .instanceMethod yX1_order, .selects RX1 yX1_order yX1_order, .code yX1_order cX1_order 6 (some .int), .fieldLink RX1 16 "NameNumbersModel" "lengths" "[I", .fieldLink RX1 7 "NameNumbersModel" "signs" "[I", .fieldLink RX1 13 "NameNumbersModel" "starts" "[I"] ++ wsX10)
set_option maxRecDepth 20000 in
theorem ggX1_next_X1_isRow : GoodIn wsX1_next wsX1_isRow := goodIn_r _ [6, 1, 14, 15, 16, 17, 18, 19, 20, 21, 22] (by decide +kernel) (by decide +kernel)
set_option maxRecDepth 20000 in
theorem gX1_next_X1_isRow : GoodIn wsX1_next (wsV RX1 49 RX1 yX1_isRow wsX1_isRow) := goodIn_app (goodIn_of _ (by decide +kernel)) ggX1_next_X1_isRow
set_option maxRecDepth 20000 in
theorem ggX1_next_X1_order : GoodIn wsX1_next wsX1_order := goodIn_r _ [10, 11, 12, 13, 14, 15, 16, 17, 18, 19, 20, 21, 22] (by decide +kernel) (by decide +kernel)
set_option maxRecDepth 20000 in
theorem gX1_next_X1_order : GoodIn wsX1_next (wsV RX1 53 RX1 yX1_order wsX1_order) := goodIn_app (goodIn_of _ (by decide +kernel)) ggX1_next_X1_order
theorem dX1_next_0 : decode cX1_next 0 = .ok (.aload_n 0, 1) := by decide +kernel
theorem dX1_next_1 : decode cX1_next 1 = .ok (.iload_n 1, 1) := by decide +kernel
theorem dX1_next_2 : decode cX1_next 2 = .ok (.invokevirtual 49, 3) := by decide +kernel
theorem dX1_next_5 : decode cX1_next 5 = .ok (.ifCond .ne 5, 3) := by decide +kernel
theorem dX1_next_8 : decode cX1_next 8 = .ok (.iconst (-1), 1) := by decide +kernel
theorem dX1_next_9 : decode cX1_next 9 = .ok (.ireturn, 1) := by decide +kernel
theorem dX1_next_10 : decode cX1_next 10 = .ok (.iconst 0, 1) := by decide +kernel
theorem dX1_next_11 : decode cX1_next 11 = .ok (.istore_n 2, 1) := by decide +kernel
theorem dX1_next_12 : decode cX1_next 12 = .ok (.iconst 1, 1) := by decide +kernel
theorem dX1_next_13 : decode cX1_next 13 = .ok (.istore_n 3, 1) := by decide +kernel
theorem dX1_next_14 : decode cX1_next 14 = .ok (.iload_n 3, 1) := by decide +kernel
theorem dX1_next_15 : decode cX1_next 15 = .ok (.aload_n 0, 1) := by decide +kernel
theorem dX1_next_16 : decode cX1_next 16 = .ok (.getfield 30, 3) := by decide +kernel
theorem dX1_next_19 : decode cX1_next 19 = .ok (.if_icmp .gt 37, 3) := by decide +kernel
theorem dX1_next_22 : decode cX1_next 22 = .ok (.aload_n 0, 1) := by decide +kernel
theorem dX1_next_23 : decode cX1_next 23 = .ok (.iload_n 3, 1) := by decide +kernel
theorem dX1_next_24 : decode cX1_next 24 = .ok (.iload_n 1, 1) := by decide +kernel
theorem dX1_next_25 : decode cX1_next 25 = .ok (.invokevirtual 53, 3) := by decide +kernel
theorem dX1_next_28 : decode cX1_next 28 = .ok (.ifCond .le 20, 3) := by decide +kernel
theorem dX1_next_31 : decode cX1_next 31 = .ok (.iload_n 2, 1) := by decide +kernel
theorem dX1_next_32 : decode cX1_next 32 = .ok (.ifCond .eq 12, 3) := by decide +kernel
theorem dX1_next_35 : decode cX1_next 35 = .ok (.aload_n 0, 1) := by decide +kernel
theorem dX1_next_36 : decode cX1_next 36 = .ok (.iload_n 3, 1) := by decide +kernel
theorem dX1_next_37 : decode cX1_next 37 = .ok (.iload_n 2, 1) := by decide +kernel
theorem dX1_next_38 : decode cX1_next 38 = .ok (.invokevirtual 53, 3) := by decide +kernel
theorem dX1_next_41 : decode cX1_next 41 = .ok (.ifCond .ge 7, 3) := by decide +kernel
theorem dX1_next_44 : decode cX1_next 44 = .ok (.iload_n 3, 1) := by decide +kernel
theorem dX1_next_45 : decode cX1_next 45 = .ok (.goto 4, 3) := by decide +kernel
theorem dX1_next_48 : decode cX1_next 48 = .ok (.iload_n 2, 1) := by decide +kernel
theorem dX1_next_49 : decode cX1_next 49 = .ok (.istore_n 2, 1) := by decide +kernel
theorem dX1_next_50 : decode cX1_next 50 = .ok (.iinc 3 1, 3) := by decide +kernel
theorem dX1_next_53 : decode cX1_next 53 = .ok (.goto (-39), 3) := by decide +kernel
theorem dX1_next_56 : decode cX1_next 56 = .ok (.iload_n 2, 1) := by decide +kernel
theorem dX1_next_57 : decode cX1_next 57 = .ok (.ireturn, 1) := by decide +kernel
def wsX1_clear : List Cond := .code yX1_clear cX1_clear 2 (some .int) :: ([.fieldLink RX1 30 "NameNumbersModel" "rows" "I", .fieldLink RX1 40 "NameNumbersModel" "used" "I"] ++ wsX10)
theorem dX1_clear_0 : decode cX1_clear 0 = .ok (.aload_n 0, 1) := by decide +kernel
theorem dX1_clear_1 : decode cX1_clear 1 = .ok (.getfield 30, 3) := by decide +kernel
theorem dX1_clear_4 : decode cX1_clear 4 = .ok (.istore_n 1, 1) := by decide +kernel
theorem dX1_clear_5 : decode cX1_clear 5 = .ok (.aload_n 0, 1) := by decide +kernel
theorem dX1_clear_6 : decode cX1_clear 6 = .ok (.iconst 0, 1) := by decide +kernel
theorem dX1_clear_7 : decode cX1_clear 7 = .ok (.putfield 30, 3) := by decide +kernel
theorem dX1_clear_10 : decode cX1_clear 10 = .ok (.aload_n 0, 1) := by decide +kernel
theorem dX1_clear_11 : decode cX1_clear 11 = .ok (.iconst 0, 1) := by decide +kernel
theorem dX1_clear_12 : decode cX1_clear 12 = .ok (.putfield 40, 3) := by decide +kernel
theorem dX1_clear_15 : decode cX1_clear 15 = .ok (.iload_n 1, 1) := by decide +kernel
theorem dX1_clear_16 : decode cX1_clear 16 = .ok (.ireturn, 1) := by decide +kernel
set_option maxRecDepth 20000 in
theorem gL_law_X1_part : GoodIn lw_tbl (wsV RL 61 RX1 yX1_part wsX1_part) := goodIn_p _ [255, 214, 198, 202] (by decide +kernel) (by decide +kernel)
set_option maxRecDepth 20000 in
theorem gL_law_X1_next : GoodIn lw_tbl (wsV RL 65 RX1 yX1_next wsX1_next) := goodIn_p _ [259, 214, 234] (by decide +kernel) (by decide +kernel)
set_option maxRecDepth 20000 in
theorem gL_law_X1_clear : GoodIn lw_tbl (wsV RL 69 RX1 yX1_clear wsX1_clear) := goodIn_p _ [263] (by decide +kernel) (by decide +kernel)
end
section
theorem mv_of {l : Launch} {y : MethodName} {own : String} {wd wd' : List Cond} {rm : Room} {cc : ByteArray} {maxL : Nat} {D : va_G} {cl : List vw_C} {ws : va_W} {tys : List (ClassId × FieldType)} {A : Nat → Prop} {av : List Value} {post : va_W → Prop} (hy : plainName y.cls = true) (hw : wd = Cond.code y cc maxL none :: wd') (ho : y.cls = own) (hn : (lg_sl av).length ≤ maxL)
    (body : ∀ (p : Program) (e : Env) (s : State) (m : MethodId) (below : List Frame) (meth : Method) (c : Code), p.tables.exec = Jvm.exec → c.code = cc → meth.sig.returnType = none → (∀ w ∈ wd, w.before av.toArray s = true) → s.vm.findClass own = some m.cls → meth.locks = false → c.maxLocals = maxL → va_P D cl ws s.heap → va_K D cl tys s → va_D A ws → va_S A s.heap s.heap [] → ∀ ls : Array Slot, lv_has ls maxL (lv_args 0 av) → W p l e rm s m av.toArray below meth c s.heap [] 0 0 (MQ below (va_Qv post (mu_B D cl tys A) A) av.toArray s 0 0 A) (F0 m 0 ls [])) : Met l y wd rm (mu_Pc D cl ws tys A av) (va_Qv post (mu_B D cl tys A) A) 0 0 A := by
  refine Met.ofW (cc := cc) (maxL := maxL) (ret := none) hy hw ?_
  intro p e s m args below meth c s₁ B hml hv
  obtain ⟨rfl, hP, hK, hD⟩ := hv
  have hl := lv_entry av (n := maxL) hn
  rw [lg_entry_eq]
  subst ho
  exact body p e s m below meth c B.exec B.bytes B.returns (atoms_spec (ws := wd) B.pre) (findClass_of_methodNamed B.named) B.notSynchronized hml hP hK hD va_S.rf _ hl
section RZ
variable {p : Program} {l : Launch} {e : Env} {R : Room} {s : State} {m : MethodId} {args : Array Value} {below : List Frame} {meth : Method} {c : Code} {H : Heap} {locs : List Loc} {cells slots : Nat} {Q : State → Prop}
variable {cc : ByteArray} {pc : Nat} {ls : Array Slot} {rest : List Value} {D : va_G} {cl : List vw_C} {A : Nat → Prop} {tys : List (ClassId × FieldType)} {ws : va_W}
theorem mu_zret {post : Int32 → va_W → Prop} {v : Int32} (hx : p.tables.exec = Jvm.exec) (hb : c.code = cc) (hr : meth.sig.returnType = some .boolean) (hlocks : meth.locks = false) (hn : narrow .boolean (.int v) = .int v) (hP : va_P D cl ws H) (hK : va_K D cl tys s) (hD : va_D A ws) (hS : va_S A s.heap H locs) (hp : post v ws) (hdg : decode cc pc = .ok (.ireturn, 1)) : W p l e R s m args below meth c H locs 0 0 (MQ below (va_Qi post (mu_B D cl tys A) A) args s 0 0 A) (F0 m pc ls [.int v]) := W.zret hx hb hr hn (fun t ht hW => ⟨⟨v, ws, rfl, hp, by rw [ht]; exact hP, va_K.moved hW.alike hK, hD⟩, hS.F ht⟩) hS.2.2 hdg
end RZ
/-- the reference's cells w hold the draft d and the rows -/
def md_Ok (cI : ClassId) (W : (Nat → Int32) → (Nat → Int32) → (Nat → Int32) → (Nat → Int32) → (Nat → Int32) → Nat → Nat → Nat → Nat → va_W) (d : List Int32) (rows : List (List Int32)) (w : va_W) : Prop := ∃ (sg ta le dr so : Nat → Int32) (us rc n sn : Nat) (S : Nat → Nat), w = W sg ta le dr so us rc n sn ∧ n ≤ 2000 ∧ sn ≤ 20000 ∧ md_S ta le us rc S ∧ d = sp_sl dr 0 n ∧ rows = cn_rows sg S 1 rc
theorem md_S_add {ta le : Nat → Int32} {us rc sn : Nat} {S : Nat → Nat} (hM : md_S ta le us rc S) (h1 : ¬ rc = 3000) (h2 : us + sn ≤ 20000) : md_S (upd ta (rc + 1) (nI us)) (upd le (rc + 1) (nI sn)) (us + sn) (rc + 1) (cn_S1 S rc sn) := by
  have hu := hM.2.2.2.1
  refine ⟨?_, ?_, ?_, ?_, h2, by have := hM.2.2.2.2.2; omega⟩
  · show (if 1 = rc + 1 + 1 then _ else S 1) = 0
    rw [if_neg (by omega)]; exact hM.1
  · intro k hk1 hk2
    show _ = nI (if k = rc + 1 + 1 then _ else S k) ∧ _ = nI ((if k + 1 = rc + 1 + 1 then _ else S (k + 1)) - (if k = rc + 1 + 1 then _ else S k))
    rw [if_neg (show ¬ k = rc + 1 + 1 by omega)]
    by_cases q : k = rc + 1
    · subst q
      rw [pk_us, pk_us, if_pos rfl, hu]
      exact ⟨rfl, by congr 1; omega⟩
    · rw [pk_un q, pk_un q, if_neg (by omega)]
      exact hM.2.1 k hk1 (by omega)
  · intro k hk1 hk2
    show (if k = rc + 1 + 1 then _ else S k) ≤ (if k + 1 = rc + 1 + 1 then _ else S (k + 1))
    rw [if_neg (by omega)]
    by_cases q : k + 1 = rc + 1 + 1
    · rw [if_pos q, show k = rc + 1 by omega]; omega
    · rw [if_neg q]; exact hM.2.2.1 k hk1 (by omega)
  · show us + sn = (if rc + 1 + 1 = rc + 1 + 1 then _ else _)
    rw [if_pos rfl, hu]
theorem md_S_0 {ta le : Nat → Int32} {us rc : Nat} {S : Nat → Nat} (hM : md_S ta le us rc S) : md_S ta le 0 0 S := ⟨hM.1, fun k h1 h2 => absurd h1 (by omega), fun k h1 h2 => absurd h1 (by omega), hM.1.symm, by omega, by omega⟩
/-- number(): nothing free -/
theorem md_nb_full {sg ta le : Nat → Int32} {us rc sn : Nat} {S : Nat → Nat} {d : List Int32} (hM : md_S ta le us rc S) (hF : sp_fd d (cn_rows sg S 1 rc) 1 = none) (hd : d.length = sn) (h : rc = 3000 ∨ 20000 < us + sn) : sp_numberOf (cn_rows sg S 1 rc) d = (cn_rows sg S 1 rc, -1) := by
  unfold sp_numberOf
  rw [hF]
  show (if _ then _ else _) = _
  rw [if_neg]
  rw [cn_rows_len, cn_sum (md_R hM) rc (Nat.le_refl _), hd, ← hM.2.2.2.1]
  omega
theorem md_nb_new {sg f so ta le : Nat → Int32} {us rc sn : Nat} {S : Nat → Nat} (hM : md_S ta le us rc S) (hF : sp_fd (sp_sl so 0 sn) (cn_rows sg S 1 rc) 1 = none) (h1 : ¬ rc = 3000) (h2 : us + sn ≤ 20000) (i1 : ∀ z, z < us → f z = sg z) (i2 : ∀ z, z < sn → f (us + z) = so z) : sp_numberOf (cn_rows sg S 1 rc) (sp_sl so 0 sn) = (cn_rows f (cn_S1 S rc sn) 1 (rc + 1), nI (rc + 1)) := by
  have hu := hM.2.2.2.1
  have hc := hM.2.2.2.2.2
  unfold sp_numberOf
  rw [hF]
  show (if _ then _ else _) = _
  rw [if_pos (by rw [cn_rows_len, cn_sum (md_R hM) rc (Nat.le_refl _), sp_len, ← hu]; omega), cn_rows_len, cn_rows_snoc]
  have eA : cn_rows sg S 1 rc = cn_rows f (cn_S1 S rc sn) 1 rc := by
    apply cn_rows_ext
    intro i hi
    unfold cn_row cn_S1
    rw [if_neg (by omega), if_neg (by omega)]
    apply sp_ext
    intro x hx
    have := cn_mono (md_R hM) (j := 1 + i + 1) (k := rc + 1) (by omega) (by omega) (Nat.le_refl _)
    rw [i1 _ (by omega)]
  have eB : sp_sl so 0 sn = cn_row f (cn_S1 S rc sn) (1 + rc) := by
    unfold cn_row cn_S1
    rw [if_neg (by omega), if_pos (by omega), show 1 + rc = rc + 1 by omega, ← hu, show us + sn - us = sn by omega]
    apply sp_ext
    intro x hx
    rw [i2 x hx, Nat.zero_add]
  rw [← eA, ← eB]
theorem md_nb_old {rows : List (List Int32)} {d : List Int32} {k : Nat} (hF : sp_fd d rows 1 = some k) : sp_numberOf rows d = (rows, nI k) := by
  unfold sp_numberOf
  rw [hF]
theorem sp_fd_ge {d : List Int32} : ∀ (rows : List (List Int32)) (k j : Nat), sp_fd d rows k = some j → k ≤ j := by
  intro rows
  induction rows with
  | nil => intro k j h; simp [sp_fd] at h
  | cons r rs ih =>
    intro k j h
    rw [sp_fd] at h
    by_cases q : r = d
    · rw [if_pos q] at h; cases h; exact Nat.le_refl _
    · rw [if_neg q] at h
      have := ih (k + 1) j h
      omega
theorem sp_nb_ans {rows : List (List Int32)} {d : List Int32} (h : rows.length ≤ 3000) : (sp_numberOf rows d).2 = -1 ∨ ∃ k, k < 2 ^ 31 ∧ (sp_numberOf rows d).2 = nI k := by
  unfold sp_numberOf
  cases hf : sp_fd d rows 1 with
  | some k => exact Or.inr ⟨k, by have := sp_fd_lt rows 1 k hf; omega, rfl⟩
  | none =>
    show (if _ then _ else _ : List (List Int32) × Int32).2 = -1 ∨ _
    by_cases q : rows.length < 3000 ∧ d.length + sp_sum rows ≤ 20000
    · right
      refine ⟨rows.length + 1, by omega, ?_⟩
      show (if _ then _ else _ : List (List Int32) × Int32).2 = _
      rw [if_pos q]
    · left
      rw [if_neg q]
end
section
abbrev md_W (cI : ClassId) (m0 ms mt ml md mk : Nat) (wr : va_W) (sg ta le dr so : Nat → Int32) (us rc n sn : Nat) : va_W := (m0, .inr (1, [.ref ms, .int (nI us), .ref mt, .ref ml, .int (nI rc), .ref md, .int (nI n), .ref mk, .int (nI sn)])) :: (ms, .inl (cI, 20000, .inl sg)) :: (mt, .inl (cI, 3001, .inl ta)) :: (ml, .inl (cI, 3001, .inl le)) :: (md, .inl (cI, 2000, .inl dr)) :: (mk, .inl (cI, 20000, .inl so)) :: wr
set_option maxHeartbeats 4000000 in
set_option maxRecDepth 100000 in
/-- isRow -/
theorem km_isRow (l : Launch) (D : va_G) {tys : List (ClassId × FieldType)} {cI : ClassId} (hty : tys[0]? = some (cI, .int)) (m0 ms mt ml md mk : Nat) (wr : va_W) (sg ta le dr so : Nat → Int32) (us rc n sn : Nat) (hrc : rc ≤ 3000) (k : Int32) : Met l yX1_isRow wsX1_isRow ({ frames := 0, cells := 0, slots := 0, locals := 0 }) (pu_Pc D vwCl (md_W cI m0 ms mt ml md mk wr sg ta le dr so us rc n sn) tys [.ref m0, .int k]) (vp_Si (fun r => (r = nI 1 ∧ cn_is rc k) ∨ (r = nI 0 ∧ ¬ cn_is rc k))) 0 0 (fun _ => False) := by
  refine pu_of (cc := cX1_isRow) (maxL := 2) (ret := some .boolean) (own := RX1) (by decide) rfl rfl (Nat.le_of_ble_eq_true rfl) ?_
  intro p e s m below meth c hx hb hr hts hown hlocks hml hP hK ls hl
  have hl : lv_has ls 2 [(0, .ref m0), (1, .int k)] := hl
  have hin1 : ∀ w ∈ u_ws RX1 TX1 9, w ∈ wsX1_isRow := by decide +kernel
  have f30 := hts (.fieldLink RX1 30 "NameNumbersModel" "rows" "I") (by decide +kernel)
  refine lv_iload_n hx hb dX1_isRow_0 rfl (lv_at hl 1 rfl) ?_
  refine lv_iconst (v := nI 1) hx hb dX1_isRow_1 (by decide) ?_
  refine lv_icmp_lt (tgt := 17) hx hb dX1_isRow_2 (by decide) (fun c_2 => ?_) (fun c_2 => ?_)
  · refine lv_iconst (v := nI 0) hx hb dX1_isRow_17 (by decide) ?_
    exact pu_zret hx hb hr hlocks (by decide) (Or.inr ⟨rfl, by first | exact cn_is_lo hrc c_2 | exact cn_is_hi hrc c_10⟩) dX1_isRow_18
  · refine lv_iload_n hx hb dX1_isRow_5 rfl (lv_at hl 1 rfl) ?_
    refine lv_aload_n hx hb dX1_isRow_6 rfl (lv_at hl 0 rfl) ?_
    refine va_get (D := D) (ci := 1) (v := .int (nI rc)) (C := RX1) (T := TX1) (N := 9) hx hb hts hin1 hown hK hP 0 rfl rfl 4 (by decide) f30 (fun _ h9 => h9) rfl dX1_isRow_7 ?_
    refine lv_icmp_gt (tgt := 17) hx hb dX1_isRow_10 (by decide) (fun c_10 => ?_) (fun c_10 => ?_)
    · refine lv_iconst (v := nI 0) hx hb dX1_isRow_17 (by decide) ?_
      exact pu_zret hx hb hr hlocks (by decide) (Or.inr ⟨rfl, by first | exact cn_is_lo hrc c_2 | exact cn_is_hi hrc c_10⟩) dX1_isRow_18
    · refine lv_iconst (v := nI 1) hx hb dX1_isRow_13 (by decide) ?_
      refine lv_goto (tgt := 18) hx hb dX1_isRow_14 (by decide) ?_
      exact pu_zret hx hb hr hlocks (by decide) (Or.inl ⟨rfl, cn_is_yes hrc c_2 c_10⟩) dX1_isRow_18
set_option maxHeartbeats 4000000 in
set_option maxRecDepth 100000 in
/-- rows -/
theorem km_rows (l : Launch) (D : va_G) {tys : List (ClassId × FieldType)} {cI : ClassId} (hty : tys[0]? = some (cI, .int)) (m0 ms mt ml md mk : Nat) (wr : va_W) (sg ta le dr so : Nat → Int32) (us rc n sn : Nat)  : Met l yX1_rows wsX1_rows ({ frames := 0, cells := 0, slots := 0, locals := 0 }) (pu_Pc D vwCl (md_W cI m0 ms mt ml md mk wr sg ta le dr so us rc n sn) tys [.ref m0]) (vp_Si (fun r => r = nI rc)) 0 0 (fun _ => False) := by
  refine pu_of (cc := cX1_rows) (maxL := 1) (ret := some .int) (own := RX1) (by decide) rfl rfl (Nat.le_of_ble_eq_true rfl) ?_
  intro p e s m below meth c hx hb hr hts hown hlocks hml hP hK ls hl
  have hl : lv_has ls 1 [(0, .ref m0)] := hl
  have hin1 : ∀ w ∈ u_ws RX1 TX1 9, w ∈ wsX1_rows := by decide +kernel
  have f30 := hts (.fieldLink RX1 30 "NameNumbersModel" "rows" "I") (by decide +kernel)
  refine lv_aload_n hx hb dX1_rows_0 rfl (lv_at hl 0 rfl) ?_
  refine va_get (D := D) (ci := 1) (v := .int (nI rc)) (C := RX1) (T := TX1) (N := 9) hx hb hts hin1 hown hK hP 0 rfl rfl 4 (by decide) f30 (fun _ h9 => h9) rfl dX1_rows_1 ?_
  exact pu_iret hx hb hr hlocks (rfl) dX1_rows_4
set_option maxHeartbeats 4000000 in
set_option maxRecDepth 100000 in
/-- length -/
theorem km_length (l : Launch) (D : va_G) {tys : List (ClassId × FieldType)} {cI : ClassId} (hty : tys[0]? = some (cI, .int)) (m0 ms mt ml md mk : Nat) (wr : va_W) (sg ta le dr so : Nat → Int32) (us rc n sn : Nat) (S : Nat → Nat) (hM : md_S ta le us rc S) (k : Int32) : Met l yX1_length wsX1_length ({ frames := 1, cells := 0, slots := 0, locals := 21 }) (pu_Pc D vwCl (md_W cI m0 ms mt ml md mk wr sg ta le dr so us rc n sn) tys [.ref m0, .int k]) (vp_Si (fun r => r = sp_length (cn_rows sg S 1 rc) k)) 0 0 (fun _ => False) := by
  refine pu_of (cc := cX1_length) (maxL := 2) (ret := some .int) (own := RX1) (by decide) rfl rfl (Nat.le_of_ble_eq_true rfl) ?_
  intro p e s m below meth c hx hb hr hts hown hlocks hml hP hK ls hl
  have hl : lv_has ls 2 [(0, .ref m0), (1, .int k)] := hl
  have hin1 : ∀ w ∈ u_ws RX1 TX1 9, w ∈ wsX1_length := by decide +kernel
  have f16 := hts (.fieldLink RX1 16 "NameNumbersModel" "lengths" "[I") (by decide +kernel)
  refine lv_aload_n hx hb dX1_length_0 rfl (lv_at hl 0 rfl) ?_
  refine lv_iload_n hx hb dX1_length_1 rfl (lv_at hl 1 rfl) ?_
  refine vp_callSi (W.runV (As := [.int k]) (rest := []) ⟨hx, hb, hml, hown, hts⟩ (km_isRow l D hty m0 ms mt ml md mk wr sg ta le dr so us rc n sn hM.2.2.2.2.2 k) (cwV 1 hts gX1_length_X1_isRow rfl rfl rfl (by decide +kernel) ⟨Nat.le_of_ble_eq_true rfl, Nat.le_of_ble_eq_true rfl⟩) (pu_preV hK hP 0 rfl rfl) rfl rfl hl.1 rfl (lv_room (Nat.le_of_ble_eq_true rfl)) dX1_length_2 ⟨Nat.zero_le _, Nat.zero_le _⟩) (fun r2 er2 => ?_)
  rcases er2 with ⟨er2, hk_k⟩ | ⟨er2, hk_k⟩
  · subst er2
    obtain ⟨k', h1_k, h2_k, rfl⟩ := hk_k
    have hw_k := cn_row_yes (ch := sg) (md_R hM) h1_k h2_k
    refine lv_if_eq (tgt := 17) hx hb dX1_length_5 (by decide) (fun c_5 => absurd c_5 (by decide)) (fun c_5 => ?_)
    refine lv_aload_n hx hb dX1_length_8 rfl (lv_at hl 0 rfl) ?_
    refine va_get (D := D) (ci := 1) (v := .ref ml) (C := RX1) (T := TX1) (N := 9) hx hb hts hin1 hown hK hP 0 rfl rfl 3 (by decide) f16 (fun _ h9 => h9) rfl dX1_length_9 ?_
    refine lv_iload_n hx hb dX1_length_12 rfl (lv_at hl 1 rfl) ?_
    refine rn_ald (v := nI (S (k' + 1) - S k')) hx hb hK hP 3 0 rfl hty (by have := hM.2.2.2.2.2; omega) (by decide) ((hM.2.1 k' (by omega) (by omega)).2) dX1_length_13 ?_
    refine lv_goto (tgt := 18) hx hb dX1_length_14 (by decide) ?_
    exact pu_iret hx hb hr hlocks (by rw [sp_length, hw_k]; show _ = nI (cn_row sg S k').length; rw [cn_row, sp_len]) dX1_length_18
  · subst er2
    have hw_k := cn_row_no (ch := sg) (md_R hM) hk_k
    refine lv_if_eq (tgt := 17) hx hb dX1_length_5 (by decide) (fun c_5 => ?_) (fun c_5 => absurd c_5 (not_not_intro (by decide)))
    refine lv_iconst (v := (-1)) hx hb dX1_length_17 (by decide) ?_
    exact pu_iret hx hb hr hlocks (by rw [sp_length, hw_k]) dX1_length_18
set_option maxHeartbeats 4000000 in
set_option maxRecDepth 100000 in
/-- sign -/
theorem km_sign (l : Launch) (D : va_G) {tys : List (ClassId × FieldType)} {cI : ClassId} (hty : tys[0]? = some (cI, .int)) (m0 ms mt ml md mk : Nat) (wr : va_W) (sg ta le dr so : Nat → Int32) (us rc n sn : Nat) (S : Nat → Nat) (hM : md_S ta le us rc S) (k i : Int32) : Met l yX1_sign wsX1_sign ({ frames := 1, cells := 0, slots := 0, locals := 21 }) (pu_Pc D vwCl (md_W cI m0 ms mt ml md mk wr sg ta le dr so us rc n sn) tys [.ref m0, .int k, .int i]) (vp_Si (fun r => r = sp_sign (cn_rows sg S 1 rc) k i)) 0 0 (fun _ => False) := by
  refine pu_of (cc := cX1_sign) (maxL := 3) (ret := some .int) (own := RX1) (by decide) rfl rfl (Nat.le_of_ble_eq_true rfl) ?_
  intro p e s m below meth c hx hb hr hts hown hlocks hml hP hK ls hl
  have hl : lv_has ls 3 [(0, .ref m0), (1, .int k), (2, .int i)] := hl
  have hin1 : ∀ w ∈ u_ws RX1 TX1 9, w ∈ wsX1_sign := by decide +kernel
  have f7 := hts (.fieldLink RX1 7 "NameNumbersModel" "signs" "[I") (by decide +kernel)
  have f13 := hts (.fieldLink RX1 13 "NameNumbersModel" "starts" "[I") (by decide +kernel)
  have f16 := hts (.fieldLink RX1 16 "NameNumbersModel" "lengths" "[I") (by decide +kernel)
  refine lv_aload_n hx hb dX1_sign_0 rfl (lv_at hl 0 rfl) ?_
  refine lv_iload_n hx hb dX1_sign_1 rfl (lv_at hl 1 rfl) ?_
  refine vp_callSi (W.runV (As := [.int k]) (rest := []) ⟨hx, hb, hml, hown, hts⟩ (km_isRow l D hty m0 ms mt ml md mk wr sg ta le dr so us rc n sn hM.2.2.2.2.2 k) (cwV 1 hts gX1_sign_X1_isRow rfl rfl rfl (by decide +kernel) ⟨Nat.le_of_ble_eq_true rfl, Nat.le_of_ble_eq_true rfl⟩) (pu_preV hK hP 0 rfl rfl) rfl rfl hl.1 rfl (lv_room (Nat.le_of_ble_eq_true rfl)) dX1_sign_2 ⟨Nat.zero_le _, Nat.zero_le _⟩) (fun r2 er2 => ?_)
  rcases er2 with ⟨er2, hk_k⟩ | ⟨er2, hk_k⟩
  · subst er2
    obtain ⟨k', h1_k, h2_k, rfl⟩ := hk_k
    have hw_k := cn_row_yes (ch := sg) (md_R hM) h1_k h2_k
    refine lv_if_eq (tgt := 38) hx hb dX1_sign_5 (by decide) (fun c_5 => absurd c_5 (by decide)) (fun c_5 => ?_)
    refine lv_iload_n hx hb dX1_sign_8 rfl (lv_at hl 2 rfl) ?_
    refine lv_if_lt (tgt := 38) hx hb dX1_sign_9 (by decide) (fun c_9 => ?_) (fun c_9 => ?_)
    · refine lv_iconst (v := (-1)) hx hb dX1_sign_38 (by decide) ?_
      exact pu_iret hx hb hr hlocks (by first | (rw [sp_sign, hw_k]; done) | (rw [sp_sign, hw_k]; exact (if_pos c_9).symm) | (rw [sp_sign, hw_k]; exact cn_sg_hi hx31 c_19)) dX1_sign_39
    · obtain ⟨x, hx31, rfl⟩ := nI_of c_9
      refine lv_iload_n hx hb dX1_sign_12 rfl (lv_at hl 2 rfl) ?_
      refine lv_aload_n hx hb dX1_sign_13 rfl (lv_at hl 0 rfl) ?_
      refine va_get (D := D) (ci := 1) (v := .ref ml) (C := RX1) (T := TX1) (N := 9) hx hb hts hin1 hown hK hP 0 rfl rfl 3 (by decide) f16 (fun _ h9 => h9) rfl dX1_sign_14 ?_
      refine lv_iload_n hx hb dX1_sign_17 rfl (lv_at hl 1 rfl) ?_
      refine rn_ald (v := nI (S (k' + 1) - S k')) hx hb hK hP 3 0 rfl hty (by have := hM.2.2.2.2.2; omega) (by decide) ((hM.2.1 k' (by omega) (by omega)).2) dX1_sign_18 ?_
      refine rn_icmp_ge (tgt := 38) hx hb (by have := cn_top (md_R hM) (k := k' + 1) (by omega) (by omega); omega) (by have := cn_top (md_R hM) (k := k' + 1) (by omega) (by omega); omega) dX1_sign_19 (by decide) (fun c_19 => ?_) (fun c_19 => ?_)
      · refine lv_iconst (v := (-1)) hx hb dX1_sign_38 (by decide) ?_
        exact pu_iret hx hb hr hlocks (by first | (rw [sp_sign, hw_k]; done) | (rw [sp_sign, hw_k]; exact (if_pos c_9).symm) | (rw [sp_sign, hw_k]; exact cn_sg_hi hx31 c_19)) dX1_sign_39
      · refine lv_aload_n hx hb dX1_sign_22 rfl (lv_at hl 0 rfl) ?_
        refine va_get (D := D) (ci := 1) (v := .ref ms) (C := RX1) (T := TX1) (N := 9) hx hb hts hin1 hown hK hP 0 rfl rfl 0 (by decide) f7 (fun _ h9 => h9) rfl dX1_sign_23 ?_
        refine lv_aload_n hx hb dX1_sign_26 rfl (lv_at hl 0 rfl) ?_
        refine va_get (D := D) (ci := 1) (v := .ref mt) (C := RX1) (T := TX1) (N := 9) hx hb hts hin1 hown hK hP 0 rfl rfl 2 (by decide) f13 (fun _ h9 => h9) rfl dX1_sign_27 ?_
        refine lv_iload_n hx hb dX1_sign_30 rfl (lv_at hl 1 rfl) ?_
        refine rn_ald (v := nI (S k')) hx hb hK hP 2 0 rfl hty (by have := hM.2.2.2.2.2; omega) (by decide) ((hM.2.1 k' (by omega) (by omega)).1) dX1_sign_31 ?_
        refine lv_iload_n hx hb dX1_sign_32 rfl (lv_at hl 2 rfl) ?_
        refine rn_iadd hx hb dX1_sign_33 ?_
        refine rn_ald (v := sg (S k' + x)) hx hb hK hP 1 0 rfl hty (by have := cn_top (md_R hM) (k := k' + 1) (by omega) (by omega); have := hM.2.2.1 k' h1_k h2_k; omega) (by decide) (rfl) dX1_sign_34 ?_
        refine lv_goto (tgt := 39) hx hb dX1_sign_35 (by decide) ?_
        exact pu_iret hx hb hr hlocks (by rw [sp_sign, hw_k]; exact cn_sg_in hx31 c_19) dX1_sign_39
  · subst er2
    have hw_k := cn_row_no (ch := sg) (md_R hM) hk_k
    refine lv_if_eq (tgt := 38) hx hb dX1_sign_5 (by decide) (fun c_5 => ?_) (fun c_5 => absurd c_5 (not_not_intro (by decide)))
    refine lv_iconst (v := (-1)) hx hb dX1_sign_38 (by decide) ?_
    exact pu_iret hx hb hr hlocks (by first | (rw [sp_sign, hw_k]; done) | (rw [sp_sign, hw_k]; exact (if_pos c_9).symm) | (rw [sp_sign, hw_k]; exact cn_sg_hi hx31 c_19)) dX1_sign_39
set_option maxHeartbeats 4000000 in
set_option maxRecDepth 100000 in
/-- order -/
theorem km_order (l : Launch) (D : va_G) {tys : List (ClassId × FieldType)} {cI : ClassId} (hty : tys[0]? = some (cI, .int)) (m0 ms mt ml md mk : Nat) (wr : va_W) (sg ta le dr so : Nat → Int32) (us rc n sn : Nat) (S : Nat → Nat) (hM : md_S ta le us rc S) (u v : Nat) (hu1 : 1 ≤ u) (hu2 : u ≤ rc) (hv1 : 1 ≤ v) (hv2 : v ≤ rc) (hpu : ∀ z, z < S (u + 1) - S u → ¬ sg (S u + z) < 0) (hpv : ∀ z, z < S (v + 1) - S v → ¬ sg (S v + z) < 0) : Met l yX1_order wsX1_order ({ frames := 0, cells := 0, slots := 0, locals := 0 }) (pu_Pc D vwCl (md_W cI m0 ms mt ml md mk wr sg ta le dr so us rc n sn) tys [.ref m0, .int (nI u), .int (nI v)]) (vp_Si (fun r => r = sp_cmp (cn_row sg S u) (cn_row sg S v))) 0 0 (fun _ => False) := by
  refine pu_of (cc := cX1_order) (maxL := 6) (ret := some .int) (own := RX1) (by decide) rfl rfl (Nat.le_of_ble_eq_true rfl) ?_
  intro p e s m below meth c hx hb hr hts hown hlocks hml hP hK ls hl
  have hl : lv_has ls 6 [(0, .ref m0), (1, .int (nI u)), (2, .int (nI v))] := hl
  have hin1 : ∀ w ∈ u_ws RX1 TX1 9, w ∈ wsX1_order := by decide +kernel
  have f7 := hts (.fieldLink RX1 7 "NameNumbersModel" "signs" "[I") (by decide +kernel)
  have f13 := hts (.fieldLink RX1 13 "NameNumbersModel" "starts" "[I") (by decide +kernel)
  have f16 := hts (.fieldLink RX1 16 "NameNumbersModel" "lengths" "[I") (by decide +kernel)
  have hlu := hM.2.2.1 u hu1 hu2
  have hlv := hM.2.2.1 v hv1 hv2
  have htu := cn_top (md_R hM) (k := u + 1) (by omega) (by omega)
  have htv := cn_top (md_R hM) (k := v + 1) (by omega) (by omega)
  have tail : ∀ (i : Nat) (ls : Array Slot), i ≤ S (u + 1) - S u → i ≤ S (v + 1) - S v → (∀ z, z < i → sg (S u + z) = sg (S v + z)) → (S (u + 1) - S u ≤ i ∨ S (v + 1) - S v ≤ i ∨ ¬ sg (S u + i) = sg (S v + i)) → lv_has ls 6 [(0, .ref m0), (1, .int (nI u)), (2, .int (nI v)), (3, .int (nI i))] → W p l e { frames := 0, cells := 0, slots := 0, locals := 0 } s m [.ref m0, .int (nI u), .int (nI v)].toArray below meth c s.heap [] 0 0 (MQ below (vp_Si (fun r => r = sp_cmp (cn_row sg S u) (cn_row sg S v))) [.ref m0, .int (nI u), .int (nI v)].toArray s 0 0 (fun _ => False)) (F0 m 58 ls []) := by
    intro i ls hi1 hi2 hinv hst hl
    refine lv_iload_n hx hb dX1_order_58 rfl (lv_at hl 3 rfl) ?_
    refine lv_aload_n hx hb dX1_order_59 rfl (lv_at hl 0 rfl) ?_
    refine va_get (D := D) (ci := 1) (v := .ref ml) (C := RX1) (T := TX1) (N := 9) hx hb hts hin1 hown hK hP 0 rfl rfl 3 (by decide) f16 (fun _ h9 => h9) rfl dX1_order_60 ?_
    refine lv_iload_n hx hb dX1_order_63 rfl (lv_at hl 1 rfl) ?_
    refine rn_ald (v := nI (S (u + 1) - S u)) hx hb hK hP 3 0 rfl hty (by have := hM.2.2.2.2.2; omega) (by decide) ((hM.2.1 u (by omega) (by omega)).2) dX1_order_64 ?_
    refine rn_icmp_ge (tgt := 84) hx hb (by omega) (by omega) dX1_order_65 (by decide) (fun c_65 => ?_) (fun c_65 => ?_)
    · refine lv_iconst (v := (-1)) hx hb dX1_order_84 (by decide) ?_
      refine lv_istore (lv' := [(4, .int (-1)), (0, .ref m0), (1, .int (nI u)), (2, .int (nI v)), (3, .int (nI i))]) hx hb dX1_order_85 hl (by decide) rfl (fun ls hl => ?_)
      refine lv_iload_n hx hb dX1_order_87 rfl (lv_at hl 4 rfl) ?_
      refine lv_aload_n hx hb dX1_order_88 rfl (lv_at hl 1 rfl) ?_
      refine va_get (D := D) (ci := 1) (v := .ref ml) (C := RX1) (T := TX1) (N := 9) hx hb hts hin1 hown hK hP 0 rfl rfl 3 (by decide) f16 (fun _ h9 => h9) rfl dX1_order_89 ?_
      refine lv_iload_n hx hb dX1_order_92 rfl (lv_at hl 3 rfl) ?_
      refine rn_ald (v := nI (S (v + 1) - S v)) hx hb hK hP 3 0 rfl hty (by have := hM.2.2.2.2.2; omega) (by decide) ((hM.2.1 v (by omega) (by omega)).2) dX1_order_93 ?_
      refine rn_icmp_ge (tgt := 113) hx hb (by omega) (by omega) dX1_order_94 (by decide) (fun c_94 => ?_) (fun c_94 => ?_)
      · refine lv_iconst (v := (-1)) hx hb dX1_order_113 (by decide) ?_
        refine lv_istore (lv' := [(5, .int (-1)), (4, .int (-1)), (0, .ref m0), (1, .int (nI u)), (2, .int (nI v)), (3, .int (nI i))]) hx hb dX1_order_114 hl (by decide) rfl (fun ls hl => ?_)
        refine lv_iload hx hb dX1_order_116 (lv_at hl 1 rfl) ?_
        refine lv_iload hx hb dX1_order_118 (lv_at hl 0 rfl) ?_
        refine lv_icmp_ge (tgt := 127) hx hb dX1_order_120 (by decide) (fun c_120 => ?_) (fun c_120 => ?_)
        · refine lv_iload hx hb dX1_order_127 (lv_at hl 1 rfl) ?_
          refine lv_iload hx hb dX1_order_129 (lv_at hl 0 rfl) ?_
          refine lv_icmp_le (tgt := 138) hx hb dX1_order_131 (by decide) (fun c_131 => ?_) (fun c_131 => ?_)
          · refine lv_iconst (v := nI 0) hx hb dX1_order_138 (by decide) ?_
            exact pu_iret hx hb hr hlocks (by rw [cn_row, cn_row, md_ord (x := (-1)) (y := (-1)) (by first | exact Or.inl ⟨c_65, rfl⟩ | exact Or.inr ⟨c_65, rfl⟩) (by first | exact Or.inl ⟨c_94, rfl⟩ | exact Or.inr ⟨c_94, rfl⟩) hinv hst hpu hpv hi1 hi2, if_neg (Int32.not_lt.mpr c_120), if_neg (Int32.not_lt.mpr c_131)]; rfl) dX1_order_139
          · refine lv_iconst (v := nI 1) hx hb dX1_order_134 (by decide) ?_
            refine lv_goto (tgt := 139) hx hb dX1_order_135 (by decide) ?_
            exact pu_iret hx hb hr hlocks (by rw [cn_row, cn_row, md_ord (x := (-1)) (y := (-1)) (by first | exact Or.inl ⟨c_65, rfl⟩ | exact Or.inr ⟨c_65, rfl⟩) (by first | exact Or.inl ⟨c_94, rfl⟩ | exact Or.inr ⟨c_94, rfl⟩) hinv hst hpu hpv hi1 hi2, if_neg (Int32.not_lt.mpr c_120), if_pos (Int32.not_le.mp c_131)]; rfl) dX1_order_139
        · refine lv_iconst (v := (-1)) hx hb dX1_order_123 (by decide) ?_
          refine lv_goto (tgt := 139) hx hb dX1_order_124 (by decide) ?_
          exact pu_iret hx hb hr hlocks (by rw [cn_row, cn_row, md_ord (x := (-1)) (y := (-1)) (by first | exact Or.inl ⟨c_65, rfl⟩ | exact Or.inr ⟨c_65, rfl⟩) (by first | exact Or.inl ⟨c_94, rfl⟩ | exact Or.inr ⟨c_94, rfl⟩) hinv hst hpu hpv hi1 hi2, if_pos (Int32.not_le.mp c_120)]) dX1_order_139
      · refine lv_aload_n hx hb dX1_order_97 rfl (lv_at hl 1 rfl) ?_
        refine va_get (D := D) (ci := 1) (v := .ref ms) (C := RX1) (T := TX1) (N := 9) hx hb hts hin1 hown hK hP 0 rfl rfl 0 (by decide) f7 (fun _ h9 => h9) rfl dX1_order_98 ?_
        refine lv_aload_n hx hb dX1_order_101 rfl (lv_at hl 1 rfl) ?_
        refine va_get (D := D) (ci := 1) (v := .ref mt) (C := RX1) (T := TX1) (N := 9) hx hb hts hin1 hown hK hP 0 rfl rfl 2 (by decide) f13 (fun _ h9 => h9) rfl dX1_order_102 ?_
        refine lv_iload_n hx hb dX1_order_105 rfl (lv_at hl 3 rfl) ?_
        refine rn_ald (v := nI (S v)) hx hb hK hP 2 0 rfl hty (by have := hM.2.2.2.2.2; omega) (by decide) ((hM.2.1 v (by omega) (by omega)).1) dX1_order_106 ?_
        refine lv_iload_n hx hb dX1_order_107 rfl (lv_at hl 4 rfl) ?_
        refine rn_iadd hx hb dX1_order_108 ?_
        refine rn_ald (v := sg (S v + i)) hx hb hK hP 1 0 rfl hty (by omega) (by decide) (rfl) dX1_order_109 ?_
        refine lv_goto (tgt := 114) hx hb dX1_order_110 (by decide) ?_
        refine lv_istore (lv' := [(5, .int (sg (S v + i))), (4, .int (-1)), (0, .ref m0), (1, .int (nI u)), (2, .int (nI v)), (3, .int (nI i))]) hx hb dX1_order_114 hl (by decide) rfl (fun ls hl => ?_)
        refine lv_iload hx hb dX1_order_116 (lv_at hl 1 rfl) ?_
        refine lv_iload hx hb dX1_order_118 (lv_at hl 0 rfl) ?_
        refine lv_icmp_ge (tgt := 127) hx hb dX1_order_120 (by decide) (fun c_120 => ?_) (fun c_120 => ?_)
        · refine lv_iload hx hb dX1_order_127 (lv_at hl 1 rfl) ?_
          refine lv_iload hx hb dX1_order_129 (lv_at hl 0 rfl) ?_
          refine lv_icmp_le (tgt := 138) hx hb dX1_order_131 (by decide) (fun c_131 => ?_) (fun c_131 => ?_)
          · refine lv_iconst (v := nI 0) hx hb dX1_order_138 (by decide) ?_
            exact pu_iret hx hb hr hlocks (by rw [cn_row, cn_row, md_ord (x := (-1)) (y := sg (S v + i)) (by first | exact Or.inl ⟨c_65, rfl⟩ | exact Or.inr ⟨c_65, rfl⟩) (by first | exact Or.inl ⟨c_94, rfl⟩ | exact Or.inr ⟨c_94, rfl⟩) hinv hst hpu hpv hi1 hi2, if_neg (Int32.not_lt.mpr c_120), if_neg (Int32.not_lt.mpr c_131)]; rfl) dX1_order_139
          · refine lv_iconst (v := nI 1) hx hb dX1_order_134 (by decide) ?_
            refine lv_goto (tgt := 139) hx hb dX1_order_135 (by decide) ?_
            exact pu_iret hx hb hr hlocks (by rw [cn_row, cn_row, md_ord (x := (-1)) (y := sg (S v + i)) (by first | exact Or.inl ⟨c_65, rfl⟩ | exact Or.inr ⟨c_65, rfl⟩) (by first | exact Or.inl ⟨c_94, rfl⟩ | exact Or.inr ⟨c_94, rfl⟩) hinv hst hpu hpv hi1 hi2, if_neg (Int32.not_lt.mpr c_120), if_pos (Int32.not_le.mp c_131)]; rfl) dX1_order_139
        · refine lv_iconst (v := (-1)) hx hb dX1_order_123 (by decide) ?_
          refine lv_goto (tgt := 139) hx hb dX1_order_124 (by decide) ?_
          exact pu_iret hx hb hr hlocks (by rw [cn_row, cn_row, md_ord (x := (-1)) (y := sg (S v + i)) (by first | exact Or.inl ⟨c_65, rfl⟩ | exact Or.inr ⟨c_65, rfl⟩) (by first | exact Or.inl ⟨c_94, rfl⟩ | exact Or.inr ⟨c_94, rfl⟩) hinv hst hpu hpv hi1 hi2, if_pos (Int32.not_le.mp c_120)]) dX1_order_139
    · refine lv_aload_n hx hb dX1_order_68 rfl (lv_at hl 0 rfl) ?_
      refine va_get (D := D) (ci := 1) (v := .ref ms) (C := RX1) (T := TX1) (N := 9) hx hb hts hin1 hown hK hP 0 rfl rfl 0 (by decide) f7 (fun _ h9 => h9) rfl dX1_order_69 ?_
      refine lv_aload_n hx hb dX1_order_72 rfl (lv_at hl 0 rfl) ?_
      refine va_get (D := D) (ci := 1) (v := .ref mt) (C := RX1) (T := TX1) (N := 9) hx hb hts hin1 hown hK hP 0 rfl rfl 2 (by decide) f13 (fun _ h9 => h9) rfl dX1_order_73 ?_
      refine lv_iload_n hx hb dX1_order_76 rfl (lv_at hl 1 rfl) ?_
      refine rn_ald (v := nI (S u)) hx hb hK hP 2 0 rfl hty (by have := hM.2.2.2.2.2; omega) (by decide) ((hM.2.1 u (by omega) (by omega)).1) dX1_order_77 ?_
      refine lv_iload_n hx hb dX1_order_78 rfl (lv_at hl 3 rfl) ?_
      refine rn_iadd hx hb dX1_order_79 ?_
      refine rn_ald (v := sg (S u + i)) hx hb hK hP 1 0 rfl hty (by omega) (by decide) (rfl) dX1_order_80 ?_
      refine lv_goto (tgt := 85) hx hb dX1_order_81 (by decide) ?_
      refine lv_istore (lv' := [(4, .int (sg (S u + i))), (0, .ref m0), (1, .int (nI u)), (2, .int (nI v)), (3, .int (nI i))]) hx hb dX1_order_85 hl (by decide) rfl (fun ls hl => ?_)
      refine lv_iload_n hx hb dX1_order_87 rfl (lv_at hl 4 rfl) ?_
      refine lv_aload_n hx hb dX1_order_88 rfl (lv_at hl 1 rfl) ?_
      refine va_get (D := D) (ci := 1) (v := .ref ml) (C := RX1) (T := TX1) (N := 9) hx hb hts hin1 hown hK hP 0 rfl rfl 3 (by decide) f16 (fun _ h9 => h9) rfl dX1_order_89 ?_
      refine lv_iload_n hx hb dX1_order_92 rfl (lv_at hl 3 rfl) ?_
      refine rn_ald (v := nI (S (v + 1) - S v)) hx hb hK hP 3 0 rfl hty (by have := hM.2.2.2.2.2; omega) (by decide) ((hM.2.1 v (by omega) (by omega)).2) dX1_order_93 ?_
      refine rn_icmp_ge (tgt := 113) hx hb (by omega) (by omega) dX1_order_94 (by decide) (fun c_94 => ?_) (fun c_94 => ?_)
      · refine lv_iconst (v := (-1)) hx hb dX1_order_113 (by decide) ?_
        refine lv_istore (lv' := [(5, .int (-1)), (4, .int (sg (S u + i))), (0, .ref m0), (1, .int (nI u)), (2, .int (nI v)), (3, .int (nI i))]) hx hb dX1_order_114 hl (by decide) rfl (fun ls hl => ?_)
        refine lv_iload hx hb dX1_order_116 (lv_at hl 1 rfl) ?_
        refine lv_iload hx hb dX1_order_118 (lv_at hl 0 rfl) ?_
        refine lv_icmp_ge (tgt := 127) hx hb dX1_order_120 (by decide) (fun c_120 => ?_) (fun c_120 => ?_)
        · refine lv_iload hx hb dX1_order_127 (lv_at hl 1 rfl) ?_
          refine lv_iload hx hb dX1_order_129 (lv_at hl 0 rfl) ?_
          refine lv_icmp_le (tgt := 138) hx hb dX1_order_131 (by decide) (fun c_131 => ?_) (fun c_131 => ?_)
          · refine lv_iconst (v := nI 0) hx hb dX1_order_138 (by decide) ?_
            exact pu_iret hx hb hr hlocks (by rw [cn_row, cn_row, md_ord (x := sg (S u + i)) (y := (-1)) (by first | exact Or.inl ⟨c_65, rfl⟩ | exact Or.inr ⟨c_65, rfl⟩) (by first | exact Or.inl ⟨c_94, rfl⟩ | exact Or.inr ⟨c_94, rfl⟩) hinv hst hpu hpv hi1 hi2, if_neg (Int32.not_lt.mpr c_120), if_neg (Int32.not_lt.mpr c_131)]; rfl) dX1_order_139
          · refine lv_iconst (v := nI 1) hx hb dX1_order_134 (by decide) ?_
            refine lv_goto (tgt := 139) hx hb dX1_order_135 (by decide) ?_
            exact pu_iret hx hb hr hlocks (by rw [cn_row, cn_row, md_ord (x := sg (S u + i)) (y := (-1)) (by first | exact Or.inl ⟨c_65, rfl⟩ | exact Or.inr ⟨c_65, rfl⟩) (by first | exact Or.inl ⟨c_94, rfl⟩ | exact Or.inr ⟨c_94, rfl⟩) hinv hst hpu hpv hi1 hi2, if_neg (Int32.not_lt.mpr c_120), if_pos (Int32.not_le.mp c_131)]; rfl) dX1_order_139
        · refine lv_iconst (v := (-1)) hx hb dX1_order_123 (by decide) ?_
          refine lv_goto (tgt := 139) hx hb dX1_order_124 (by decide) ?_
          exact pu_iret hx hb hr hlocks (by rw [cn_row, cn_row, md_ord (x := sg (S u + i)) (y := (-1)) (by first | exact Or.inl ⟨c_65, rfl⟩ | exact Or.inr ⟨c_65, rfl⟩) (by first | exact Or.inl ⟨c_94, rfl⟩ | exact Or.inr ⟨c_94, rfl⟩) hinv hst hpu hpv hi1 hi2, if_pos (Int32.not_le.mp c_120)]) dX1_order_139
      · refine lv_aload_n hx hb dX1_order_97 rfl (lv_at hl 1 rfl) ?_
        refine va_get (D := D) (ci := 1) (v := .ref ms) (C := RX1) (T := TX1) (N := 9) hx hb hts hin1 hown hK hP 0 rfl rfl 0 (by decide) f7 (fun _ h9 => h9) rfl dX1_order_98 ?_
        refine lv_aload_n hx hb dX1_order_101 rfl (lv_at hl 1 rfl) ?_
        refine va_get (D := D) (ci := 1) (v := .ref mt) (C := RX1) (T := TX1) (N := 9) hx hb hts hin1 hown hK hP 0 rfl rfl 2 (by decide) f13 (fun _ h9 => h9) rfl dX1_order_102 ?_
        refine lv_iload_n hx hb dX1_order_105 rfl (lv_at hl 3 rfl) ?_
        refine rn_ald (v := nI (S v)) hx hb hK hP 2 0 rfl hty (by have := hM.2.2.2.2.2; omega) (by decide) ((hM.2.1 v (by omega) (by omega)).1) dX1_order_106 ?_
        refine lv_iload_n hx hb dX1_order_107 rfl (lv_at hl 4 rfl) ?_
        refine rn_iadd hx hb dX1_order_108 ?_
        refine rn_ald (v := sg (S v + i)) hx hb hK hP 1 0 rfl hty (by omega) (by decide) (rfl) dX1_order_109 ?_
        refine lv_goto (tgt := 114) hx hb dX1_order_110 (by decide) ?_
        refine lv_istore (lv' := [(5, .int (sg (S v + i))), (4, .int (sg (S u + i))), (0, .ref m0), (1, .int (nI u)), (2, .int (nI v)), (3, .int (nI i))]) hx hb dX1_order_114 hl (by decide) rfl (fun ls hl => ?_)
        refine lv_iload hx hb dX1_order_116 (lv_at hl 1 rfl) ?_
        refine lv_iload hx hb dX1_order_118 (lv_at hl 0 rfl) ?_
        refine lv_icmp_ge (tgt := 127) hx hb dX1_order_120 (by decide) (fun c_120 => ?_) (fun c_120 => ?_)
        · refine lv_iload hx hb dX1_order_127 (lv_at hl 1 rfl) ?_
          refine lv_iload hx hb dX1_order_129 (lv_at hl 0 rfl) ?_
          refine lv_icmp_le (tgt := 138) hx hb dX1_order_131 (by decide) (fun c_131 => ?_) (fun c_131 => ?_)
          · refine lv_iconst (v := nI 0) hx hb dX1_order_138 (by decide) ?_
            exact pu_iret hx hb hr hlocks (by rw [cn_row, cn_row, md_ord (x := sg (S u + i)) (y := sg (S v + i)) (by first | exact Or.inl ⟨c_65, rfl⟩ | exact Or.inr ⟨c_65, rfl⟩) (by first | exact Or.inl ⟨c_94, rfl⟩ | exact Or.inr ⟨c_94, rfl⟩) hinv hst hpu hpv hi1 hi2, if_neg (Int32.not_lt.mpr c_120), if_neg (Int32.not_lt.mpr c_131)]; rfl) dX1_order_139
          · refine lv_iconst (v := nI 1) hx hb dX1_order_134 (by decide) ?_
            refine lv_goto (tgt := 139) hx hb dX1_order_135 (by decide) ?_
            exact pu_iret hx hb hr hlocks (by rw [cn_row, cn_row, md_ord (x := sg (S u + i)) (y := sg (S v + i)) (by first | exact Or.inl ⟨c_65, rfl⟩ | exact Or.inr ⟨c_65, rfl⟩) (by first | exact Or.inl ⟨c_94, rfl⟩ | exact Or.inr ⟨c_94, rfl⟩) hinv hst hpu hpv hi1 hi2, if_neg (Int32.not_lt.mpr c_120), if_pos (Int32.not_le.mp c_131)]; rfl) dX1_order_139
        · refine lv_iconst (v := (-1)) hx hb dX1_order_123 (by decide) ?_
          refine lv_goto (tgt := 139) hx hb dX1_order_124 (by decide) ?_
          exact pu_iret hx hb hr hlocks (by rw [cn_row, cn_row, md_ord (x := sg (S u + i)) (y := sg (S v + i)) (by first | exact Or.inl ⟨c_65, rfl⟩ | exact Or.inr ⟨c_65, rfl⟩) (by first | exact Or.inl ⟨c_94, rfl⟩ | exact Or.inr ⟨c_94, rfl⟩) hinv hst hpu hpv hi1 hi2, if_pos (Int32.not_le.mp c_120)]) dX1_order_139
  have loop : ∀ (j : Nat) (i : Nat) (ls : Array Slot), (S (u + 1) - S u) + 1 ≤ i + j → i ≤ S (u + 1) - S u → i ≤ S (v + 1) - S v → (∀ z, z < i → sg (S u + z) = sg (S v + z)) → lv_has ls 6 [(0, .ref m0), (1, .int (nI u)), (2, .int (nI v)), (3, .int (nI i))] → W p l e { frames := 0, cells := 0, slots := 0, locals := 0 } s m [.ref m0, .int (nI u), .int (nI v)].toArray below meth c s.heap [] 0 0 (MQ below (vp_Si (fun r => r = sp_cmp (cn_row sg S u) (cn_row sg S v))) [.ref m0, .int (nI u), .int (nI v)].toArray s 0 0 (fun _ => False)) (F0 m 2 ls []) := by
    intro j
    induction j with
    | zero => intro i ls hj hi1 hi2 hinv hl; exfalso; omega
    | succ j ih =>
      intro i ls hj hi1 hi2 hinv hl
      refine lv_iload_n hx hb dX1_order_2 rfl (lv_at hl 3 rfl) ?_
      refine lv_aload_n hx hb dX1_order_3 rfl (lv_at hl 0 rfl) ?_
      refine va_get (D := D) (ci := 1) (v := .ref ml) (C := RX1) (T := TX1) (N := 9) hx hb hts hin1 hown hK hP 0 rfl rfl 3 (by decide) f16 (fun _ h9 => h9) rfl dX1_order_4 ?_
      refine lv_iload_n hx hb dX1_order_7 rfl (lv_at hl 1 rfl) ?_
      refine rn_ald (v := nI (S (u + 1) - S u)) hx hb hK hP 3 0 rfl hty (by have := hM.2.2.2.2.2; omega) (by decide) ((hM.2.1 u (by omega) (by omega)).2) dX1_order_8 ?_
      refine rn_icmp_ge (tgt := 58) hx hb (by omega) (by omega) dX1_order_9 (by decide) (fun c_9 => ?_) (fun c_9 => ?_)
      · exact tail i ls hi1 hi2 hinv (by first | exact Or.inr (Or.inr c_48) | exact Or.inr (Or.inl c_19) | exact Or.inl c_9) (lv_sub hl [0, 1, 2, 3] rfl)
      · refine lv_iload_n hx hb dX1_order_12 rfl (lv_at hl 3 rfl) ?_
        refine lv_aload_n hx hb dX1_order_13 rfl (lv_at hl 0 rfl) ?_
        refine va_get (D := D) (ci := 1) (v := .ref ml) (C := RX1) (T := TX1) (N := 9) hx hb hts hin1 hown hK hP 0 rfl rfl 3 (by decide) f16 (fun _ h9 => h9) rfl dX1_order_14 ?_
        refine lv_iload_n hx hb dX1_order_17 rfl (lv_at hl 2 rfl) ?_
        refine rn_ald (v := nI (S (v + 1) - S v)) hx hb hK hP 3 0 rfl hty (by have := hM.2.2.2.2.2; omega) (by decide) ((hM.2.1 v (by omega) (by omega)).2) dX1_order_18 ?_
        refine rn_icmp_ge (tgt := 58) hx hb (by omega) (by omega) dX1_order_19 (by decide) (fun c_19 => ?_) (fun c_19 => ?_)
        · exact tail i ls hi1 hi2 hinv (by first | exact Or.inr (Or.inr c_48) | exact Or.inr (Or.inl c_19) | exact Or.inl c_9) (lv_sub hl [0, 1, 2, 3] rfl)
        · refine lv_aload_n hx hb dX1_order_22 rfl (lv_at hl 0 rfl) ?_
          refine va_get (D := D) (ci := 1) (v := .ref ms) (C := RX1) (T := TX1) (N := 9) hx hb hts hin1 hown hK hP 0 rfl rfl 0 (by decide) f7 (fun _ h9 => h9) rfl dX1_order_23 ?_
          refine lv_aload_n hx hb dX1_order_26 rfl (lv_at hl 0 rfl) ?_
          refine va_get (D := D) (ci := 1) (v := .ref mt) (C := RX1) (T := TX1) (N := 9) hx hb hts hin1 hown hK hP 0 rfl rfl 2 (by decide) f13 (fun _ h9 => h9) rfl dX1_order_27 ?_
          refine lv_iload_n hx hb dX1_order_30 rfl (lv_at hl 1 rfl) ?_
          refine rn_ald (v := nI (S u)) hx hb hK hP 2 0 rfl hty (by have := hM.2.2.2.2.2; omega) (by decide) ((hM.2.1 u (by omega) (by omega)).1) dX1_order_31 ?_
          refine lv_iload_n hx hb dX1_order_32 rfl (lv_at hl 3 rfl) ?_
          refine rn_iadd hx hb dX1_order_33 ?_
          refine rn_ald (v := sg (S u + i)) hx hb hK hP 1 0 rfl hty (by omega) (by decide) (rfl) dX1_order_34 ?_
          refine lv_aload_n hx hb dX1_order_35 rfl (lv_at hl 0 rfl) ?_
          refine va_get (D := D) (ci := 1) (v := .ref ms) (C := RX1) (T := TX1) (N := 9) hx hb hts hin1 hown hK hP 0 rfl rfl 0 (by decide) f7 (fun _ h9 => h9) rfl dX1_order_36 ?_
          refine lv_aload_n hx hb dX1_order_39 rfl (lv_at hl 0 rfl) ?_
          refine va_get (D := D) (ci := 1) (v := .ref mt) (C := RX1) (T := TX1) (N := 9) hx hb hts hin1 hown hK hP 0 rfl rfl 2 (by decide) f13 (fun _ h9 => h9) rfl dX1_order_40 ?_
          refine lv_iload_n hx hb dX1_order_43 rfl (lv_at hl 2 rfl) ?_
          refine rn_ald (v := nI (S v)) hx hb hK hP 2 0 rfl hty (by have := hM.2.2.2.2.2; omega) (by decide) ((hM.2.1 v (by omega) (by omega)).1) dX1_order_44 ?_
          refine lv_iload_n hx hb dX1_order_45 rfl (lv_at hl 3 rfl) ?_
          refine rn_iadd hx hb dX1_order_46 ?_
          refine rn_ald (v := sg (S v + i)) hx hb hK hP 1 0 rfl hty (by omega) (by decide) (rfl) dX1_order_47 ?_
          refine lv_icmp_ne (tgt := 58) hx hb dX1_order_48 (by decide) (fun c_48 => ?_) (fun c_48 => ?_)
          · exact tail i ls hi1 hi2 hinv (by first | exact Or.inr (Or.inr c_48) | exact Or.inr (Or.inl c_19) | exact Or.inl c_9) (lv_sub hl [0, 1, 2, 3] rfl)
          · refine lv_iload_n hx hb dX1_order_51 rfl (lv_at hl 3 rfl) ?_
            refine lv_iconst (v := nI 1) hx hb dX1_order_52 (by decide) ?_
            refine rn_iadd hx hb dX1_order_53 ?_
            refine lv_istore_n (lv' := [(3, .int (nI (i + 1))), (0, .ref m0), (1, .int (nI u)), (2, .int (nI v))]) hx hb dX1_order_54 rfl hl (by decide) rfl (fun ls hl => ?_)
            refine lv_goto (tgt := 2) hx hb dX1_order_55 (by decide) ?_
            exact ih (i + 1) ls (by omega) (by omega) (by omega) (fun z h2 => (Nat.lt_or_ge z i).elim (fun q => hinv z q) (fun q => by rw [show z = i by omega]; exact c_48)) (lv_sub hl [1, 2, 3, 0] rfl)
  refine lv_iconst (v := nI 0) hx hb dX1_order_0 (by decide) ?_
  refine lv_istore_n (lv' := [(3, .int (nI 0)), (0, .ref m0), (1, .int (nI u)), (2, .int (nI v))]) hx hb dX1_order_1 rfl hl (by decide) rfl (fun ls hl => ?_)
  exact loop ((S (u + 1) - S u) + 1) 0 ls (by omega) (Nat.zero_le _) (Nat.zero_le _) (fun z h => absurd h (Nat.not_lt_zero z)) (lv_sub hl [1, 2, 3, 0] rfl)
set_option maxHeartbeats 4000000 in
set_option maxRecDepth 100000 in
/-- compare -/
theorem km_compare (l : Launch) (D : va_G) {tys : List (ClassId × FieldType)} {cI : ClassId} (hty : tys[0]? = some (cI, .int)) (m0 ms mt ml md mk : Nat) (wr : va_W) (sg ta le dr so : Nat → Int32) (us rc n sn : Nat) (S : Nat → Nat) (hM : md_S ta le us rc S) (hpos : ∀ k, 1 ≤ k → k ≤ rc → ∀ z, z < S (k + 1) - S k → ¬ sg (S k + z) < 0) (a b : Int32) : Met l yX1_compare wsX1_compare ({ frames := 1, cells := 0, slots := 0, locals := 40 }) (pu_Pc D vwCl (md_W cI m0 ms mt ml md mk wr sg ta le dr so us rc n sn) tys [.ref m0, .int a, .int b]) (vp_Si (fun r => r = sp_compare (cn_rows sg S 1 rc) a b)) 0 0 (fun _ => False) := by
  refine pu_of (cc := cX1_compare) (maxL := 3) (ret := some .int) (own := RX1) (by decide) rfl rfl (Nat.le_of_ble_eq_true rfl) ?_
  intro p e s m below meth c hx hb hr hts hown hlocks hml hP hK ls hl
  have hl : lv_has ls 3 [(0, .ref m0), (1, .int a), (2, .int b)] := hl
  refine lv_aload_n hx hb dX1_compare_0 rfl (lv_at hl 0 rfl) ?_
  refine lv_iload_n hx hb dX1_compare_1 rfl (lv_at hl 1 rfl) ?_
  refine vp_callSi (W.runV (As := [.int a]) (rest := []) ⟨hx, hb, hml, hown, hts⟩ (km_isRow l D hty m0 ms mt ml md mk wr sg ta le dr so us rc n sn hM.2.2.2.2.2 a) (cwV 1 hts gX1_compare_X1_isRow rfl rfl rfl (by decide +kernel) ⟨Nat.le_of_ble_eq_true rfl, Nat.le_of_ble_eq_true rfl⟩) (pu_preV hK hP 0 rfl rfl) rfl rfl hl.1 rfl (lv_room (Nat.le_of_ble_eq_true rfl)) dX1_compare_2 ⟨Nat.zero_le _, Nat.zero_le _⟩) (fun r2 er2 => ?_)
  rcases er2 with ⟨er2, hk_a⟩ | ⟨er2, hk_a⟩
  · subst er2
    obtain ⟨a', h1_a, h2_a, rfl⟩ := hk_a
    have hw_a := cn_row_yes (ch := sg) (md_R hM) h1_a h2_a
    refine lv_if_eq (tgt := 25) hx hb dX1_compare_5 (by decide) (fun c_5 => absurd c_5 (by decide)) (fun c_5 => ?_)
    refine lv_aload_n hx hb dX1_compare_8 rfl (lv_at hl 0 rfl) ?_
    refine lv_iload_n hx hb dX1_compare_9 rfl (lv_at hl 2 rfl) ?_
    refine vp_callSi (W.runV (As := [.int b]) (rest := []) ⟨hx, hb, hml, hown, hts⟩ (km_isRow l D hty m0 ms mt ml md mk wr sg ta le dr so us rc n sn hM.2.2.2.2.2 b) (cwV 1 hts gX1_compare_X1_isRow rfl rfl rfl (by decide +kernel) ⟨Nat.le_of_ble_eq_true rfl, Nat.le_of_ble_eq_true rfl⟩) (pu_preV hK hP 0 rfl rfl) rfl rfl hl.1 rfl (lv_room (Nat.le_of_ble_eq_true rfl)) dX1_compare_10 ⟨Nat.zero_le _, Nat.zero_le _⟩) (fun r10 er10 => ?_)
    rcases er10 with ⟨er10, hk_b⟩ | ⟨er10, hk_b⟩
    · subst er10
      obtain ⟨b', h1_b, h2_b, rfl⟩ := hk_b
      have hw_b := cn_row_yes (ch := sg) (md_R hM) h1_b h2_b
      refine lv_if_eq (tgt := 25) hx hb dX1_compare_13 (by decide) (fun c_13 => absurd c_13 (by decide)) (fun c_13 => ?_)
      refine lv_aload_n hx hb dX1_compare_16 rfl (lv_at hl 0 rfl) ?_
      refine lv_iload_n hx hb dX1_compare_17 rfl (lv_at hl 1 rfl) ?_
      refine lv_iload_n hx hb dX1_compare_18 rfl (lv_at hl 2 rfl) ?_
      refine vp_callSi (W.runV (As := [.int (nI a'), .int (nI b')]) (rest := []) ⟨hx, hb, hml, hown, hts⟩ (km_order l D hty m0 ms mt ml md mk wr sg ta le dr so us rc n sn S hM a' b' h1_a h2_a h1_b h2_b (hpos a' h1_a h2_a) (hpos b' h1_b h2_b)) (cwV 2 hts gX1_compare_X1_order rfl rfl rfl (by decide +kernel) ⟨Nat.le_of_ble_eq_true rfl, Nat.le_of_ble_eq_true rfl⟩) (pu_preV hK hP 0 rfl rfl) rfl rfl hl.1 rfl (lv_room (Nat.le_of_ble_eq_true rfl)) dX1_compare_19 ⟨Nat.zero_le _, Nat.zero_le _⟩) (fun r19 er19 => ?_)
      refine lv_goto (tgt := 27) hx hb dX1_compare_22 (by decide) ?_
      exact pu_iret hx hb hr hlocks (by rw [sp_compare, hw_a, hw_b, er19]) dX1_compare_27
    · subst er10
      have hw_b := cn_row_no (ch := sg) (md_R hM) hk_b
      refine lv_if_eq (tgt := 25) hx hb dX1_compare_13 (by decide) (fun c_13 => ?_) (fun c_13 => absurd c_13 (not_not_intro (by decide)))
      refine lv_bipush (v := (-2)) hx hb dX1_compare_25 (by decide) ?_
      exact pu_iret hx hb hr hlocks (by first | (rw [sp_compare, hw_a]; done) | (rw [sp_compare, hw_a, hw_b]; done)) dX1_compare_27
  · subst er2
    have hw_a := cn_row_no (ch := sg) (md_R hM) hk_a
    refine lv_if_eq (tgt := 25) hx hb dX1_compare_5 (by decide) (fun c_5 => ?_) (fun c_5 => absurd c_5 (not_not_intro (by decide)))
    refine lv_bipush (v := (-2)) hx hb dX1_compare_25 (by decide) ?_
    exact pu_iret hx hb hr hlocks (by first | (rw [sp_compare, hw_a]; done) | (rw [sp_compare, hw_a, hw_b]; done)) dX1_compare_27
end
section
theorem md_ne {sg so : Nat → Int32} {S : Nat → Nat} {k sn i : Nat} (hlen : S (k + 1) - S k = sn) (hi : i < sn) (hc : ¬ sg (S k + i) = so i) : ¬ cn_row sg S k = sp_sl so 0 sn := by
  intro q
  rw [cn_row, hlen] at q
  have h := sp_at q i hi
  rw [Nat.zero_add] at h
  exact hc h
end
section
set_option maxHeartbeats 4000000 in
set_option maxRecDepth 100000 in
/-- next -/
theorem km_next (l : Launch) (D : va_G) {tys : List (ClassId × FieldType)} {cI : ClassId} (hty : tys[0]? = some (cI, .int)) (m0 ms mt ml md mk : Nat) (wr : va_W) (sg ta le dr so : Nat → Int32) (us rc n sn : Nat) (S : Nat → Nat) (hM : md_S ta le us rc S) (hpos : ∀ k, 1 ≤ k → k ≤ rc → ∀ z, z < S (k + 1) - S k → ¬ sg (S k + z) < 0) (k : Int32) : Met l yX1_next wsX1_next ({ frames := 1, cells := 0, slots := 0, locals := 40 }) (pu_Pc D vwCl (md_W cI m0 ms mt ml md mk wr sg ta le dr so us rc n sn) tys [.ref m0, .int k]) (vp_Si (fun r => r = sp_next (cn_rows sg S 1 rc) k)) 0 0 (fun _ => False) := by
  refine pu_of (cc := cX1_next) (maxL := 4) (ret := some .int) (own := RX1) (by decide) rfl rfl (Nat.le_of_ble_eq_true rfl) ?_
  intro p e s m below meth c hx hb hr hts hown hlocks hml hP hK ls hl
  have hl : lv_has ls 4 [(0, .ref m0), (1, .int k)] := hl
  have hin1 : ∀ w ∈ u_ws RX1 TX1 9, w ∈ wsX1_next := by decide +kernel
  have f30 := hts (.fieldLink RX1 30 "NameNumbersModel" "rows" "I") (by decide +kernel)
  refine lv_aload_n hx hb dX1_next_0 rfl (lv_at hl 0 rfl) ?_
  refine lv_iload_n hx hb dX1_next_1 rfl (lv_at hl 1 rfl) ?_
  refine vp_callSi (W.runV (As := [.int k]) (rest := []) ⟨hx, hb, hml, hown, hts⟩ (km_isRow l D hty m0 ms mt ml md mk wr sg ta le dr so us rc n sn hM.2.2.2.2.2 k) (cwV 1 hts gX1_next_X1_isRow rfl rfl rfl (by decide +kernel) ⟨Nat.le_of_ble_eq_true rfl, Nat.le_of_ble_eq_true rfl⟩) (pu_preV hK hP 0 rfl rfl) rfl rfl hl.1 rfl (lv_room (Nat.le_of_ble_eq_true rfl)) dX1_next_2 ⟨Nat.zero_le _, Nat.zero_le _⟩) (fun r2 er2 => ?_)
  rcases er2 with ⟨er2, hk_k⟩ | ⟨er2, hk_k⟩
  · subst er2
    obtain ⟨k', h1_k, h2_k, rfl⟩ := hk_k
    have hw_k := cn_row_yes (ch := sg) (md_R hM) h1_k h2_k
    refine lv_if_ne (tgt := 10) hx hb dX1_next_5 (by decide) (fun c_5 => ?_) (fun c_5 => absurd c_5 (by decide))
    refine lv_iconst (v := nI 0) hx hb dX1_next_10 (by decide) ?_
    refine lv_istore_n (lv' := [(2, .int (nI 0)), (0, .ref m0), (1, .int (nI k'))]) hx hb dX1_next_11 rfl hl (by decide) rfl (fun ls hl => ?_)
    refine lv_iconst (v := nI 1) hx hb dX1_next_12 (by decide) ?_
    refine lv_istore_n (lv' := [(3, .int (nI 1)), (2, .int (nI 0)), (0, .ref m0), (1, .int (nI k'))]) hx hb dX1_next_13 rfl hl (by decide) rfl (fun ls hl => ?_)
    have hrc := hM.2.2.2.2.2
    have loop : ∀ (j : Nat) (o : Nat) (b : Nat) (ls : Array Slot), rc + 2 ≤ o + j → 1 ≤ o → o ≤ rc + 1 → b ≤ rc → sp_nx (cn_rows sg S 1 rc) (cn_row sg S k') (cn_rows sg S 1 rc) 1 0 = sp_nx (cn_rows sg S 1 rc) (cn_row sg S k') (cn_rows sg S o (rc + 1 - o)) o b → lv_has ls 4 [(0, .ref m0), (1, .int (nI k')), (2, .int (nI b)), (3, .int (nI o))] → W p l e { frames := 1, cells := 0, slots := 0, locals := 40 } s m [.ref m0, .int (nI k')].toArray below meth c s.heap [] 0 0 (MQ below (vp_Si (fun r => r = sp_next (cn_rows sg S 1 rc) (nI k'))) [.ref m0, .int (nI k')].toArray s 0 0 (fun _ => False)) (F0 m 14 ls []) := by
      intro j
      induction j with
      | zero => intro o b ls hj hk1 hk2 hbb hinv hl; exfalso; omega
      | succ j ih =>
        intro o b ls hj hk1 hk2 hbb hinv hl
        refine lv_iload_n hx hb dX1_next_14 rfl (lv_at hl 3 rfl) ?_
        refine lv_aload_n hx hb dX1_next_15 rfl (lv_at hl 0 rfl) ?_
        refine va_get (D := D) (ci := 1) (v := .int (nI rc)) (C := RX1) (T := TX1) (N := 9) hx hb hts hin1 hown hK hP 0 rfl rfl 4 (by decide) f30 (fun _ h9 => h9) rfl dX1_next_16 ?_
        refine rn_icmp_gt (tgt := 56) hx hb (by have := hM.2.2.2.2.2; omega) (by have := hM.2.2.2.2.2; omega) dX1_next_19 (by decide) (fun c_19 => ?_) (fun c_19 => ?_)
        · refine lv_iload_n hx hb dX1_next_56 rfl (lv_at hl 2 rfl) ?_
          exact pu_iret hx hb hr hlocks (by rw [sp_next, hw_k]; show nI b = nI (sp_nx _ _ _ 1 0); rw [cn_nx_end c_19 hinv]) dX1_next_57
        · refine lv_aload_n hx hb dX1_next_22 rfl (lv_at hl 0 rfl) ?_
          refine lv_iload_n hx hb dX1_next_23 rfl (lv_at hl 3 rfl) ?_
          refine lv_iload_n hx hb dX1_next_24 rfl (lv_at hl 1 rfl) ?_
          refine vp_callSi (W.runV (As := [.int (nI o), .int (nI k')]) (rest := []) ⟨hx, hb, hml, hown, hts⟩ (km_order l D hty m0 ms mt ml md mk wr sg ta le dr so us rc n sn S hM o k' hk1 (by omega) h1_k h2_k (hpos o hk1 (by omega)) (hpos k' h1_k h2_k)) (cwV 2 hts gX1_next_X1_order rfl rfl rfl (by decide +kernel) ⟨Nat.le_of_ble_eq_true rfl, Nat.le_of_ble_eq_true rfl⟩) (pu_preV hK hP 0 rfl rfl) rfl rfl hl.1 rfl (lv_room (Nat.le_of_ble_eq_true rfl)) dX1_next_25 ⟨Nat.zero_le _, Nat.zero_le _⟩) (fun r25 er25 => ?_)
          refine lv_if_le (tgt := 48) hx hb dX1_next_28 (by decide) (fun c_28 => ?_) (fun c_28 => ?_)
          · refine lv_iload_n hx hb dX1_next_48 rfl (lv_at hl 2 rfl) ?_
            refine lv_istore_n (lv' := [(2, .int (nI b)), (0, .ref m0), (1, .int (nI k')), (3, .int (nI o))]) hx hb dX1_next_49 rfl hl (by decide) rfl (fun ls hl => ?_)
            refine rn_iinc (n := 1) (lv' := [(3, .int (nI (o + 1))), (2, .int (nI b)), (0, .ref m0), (1, .int (nI k'))]) hx hb dX1_next_50 hl (k := 3) rfl (by decide) rfl (fun ls hl => ?_)
            refine lv_goto (tgt := 14) hx hb dX1_next_53 (by decide) ?_
            exact ih (o + 1) b ls (by omega) (by omega) (by omega) hbb (by first | exact cn_nx_a (by omega) hinv (by rw [← er25]; exact c_28) | exact cn_nx_b (by omega) hinv (Nat.one_le_iff_ne_zero.mpr (fun q => c_32 (by rw [q]; rfl))) hbb (by rw [← er38]; exact c_41)) (lv_sub hl [2, 3, 1, 0] rfl)
          · refine lv_iload_n hx hb dX1_next_31 rfl (lv_at hl 2 rfl) ?_
            refine lv_if_eq (tgt := 44) hx hb dX1_next_32 (by decide) (fun c_32 => ?_) (fun c_32 => ?_)
            · refine lv_iload_n hx hb dX1_next_44 rfl (lv_at hl 3 rfl) ?_
              refine lv_goto (tgt := 49) hx hb dX1_next_45 (by decide) ?_
              refine lv_istore_n (lv' := [(2, .int (nI o)), (0, .ref m0), (1, .int (nI k')), (3, .int (nI o))]) hx hb dX1_next_49 rfl hl (by decide) rfl (fun ls hl => ?_)
              refine rn_iinc (n := 1) (lv' := [(3, .int (nI (o + 1))), (2, .int (nI o)), (0, .ref m0), (1, .int (nI k'))]) hx hb dX1_next_50 hl (k := 3) rfl (by decide) rfl (fun ls hl => ?_)
              refine lv_goto (tgt := 14) hx hb dX1_next_53 (by decide) ?_
              exact ih (o + 1) o ls (by omega) (by omega) (by omega) (by omega) (by first | exact cn_nx_d (by omega) hinv (by rw [← er25]; exact c_28) (Nat.one_le_iff_ne_zero.mpr (fun q => c_32 (by rw [q]; rfl))) hbb (by rw [← er38]; exact c_41) | exact cn_nx_c (by omega) hinv (by rw [← er25]; exact c_28) (sp_nI0 (by omega) c_32)) (lv_sub hl [2, 3, 1, 0] rfl)
            · refine lv_aload_n hx hb dX1_next_35 rfl (lv_at hl 0 rfl) ?_
              refine lv_iload_n hx hb dX1_next_36 rfl (lv_at hl 3 rfl) ?_
              refine lv_iload_n hx hb dX1_next_37 rfl (lv_at hl 2 rfl) ?_
              refine vp_callSi (W.runV (As := [.int (nI o), .int (nI b)]) (rest := []) ⟨hx, hb, hml, hown, hts⟩ (km_order l D hty m0 ms mt ml md mk wr sg ta le dr so us rc n sn S hM o b hk1 (by omega) (Nat.one_le_iff_ne_zero.mpr (fun q => c_32 (by rw [q]; rfl))) hbb (hpos o hk1 (by omega)) (hpos b (Nat.one_le_iff_ne_zero.mpr (fun q => c_32 (by rw [q]; rfl))) hbb)) (cwV 2 hts gX1_next_X1_order rfl rfl rfl (by decide +kernel) ⟨Nat.le_of_ble_eq_true rfl, Nat.le_of_ble_eq_true rfl⟩) (pu_preV hK hP 0 rfl rfl) rfl rfl hl.1 rfl (lv_room (Nat.le_of_ble_eq_true rfl)) dX1_next_38 ⟨Nat.zero_le _, Nat.zero_le _⟩) (fun r38 er38 => ?_)
              refine lv_if_ge (tgt := 48) hx hb dX1_next_41 (by decide) (fun c_41 => ?_) (fun c_41 => ?_)
              · refine lv_iload_n hx hb dX1_next_48 rfl (lv_at hl 2 rfl) ?_
                refine lv_istore_n (lv' := [(2, .int (nI b)), (0, .ref m0), (1, .int (nI k')), (3, .int (nI o))]) hx hb dX1_next_49 rfl hl (by decide) rfl (fun ls hl => ?_)
                refine rn_iinc (n := 1) (lv' := [(3, .int (nI (o + 1))), (2, .int (nI b)), (0, .ref m0), (1, .int (nI k'))]) hx hb dX1_next_50 hl (k := 3) rfl (by decide) rfl (fun ls hl => ?_)
                refine lv_goto (tgt := 14) hx hb dX1_next_53 (by decide) ?_
                exact ih (o + 1) b ls (by omega) (by omega) (by omega) hbb (by first | exact cn_nx_a (by omega) hinv (by rw [← er25]; exact c_28) | exact cn_nx_b (by omega) hinv (Nat.one_le_iff_ne_zero.mpr (fun q => c_32 (by rw [q]; rfl))) hbb (by rw [← er38]; exact c_41)) (lv_sub hl [2, 3, 1, 0] rfl)
              · refine lv_iload_n hx hb dX1_next_44 rfl (lv_at hl 3 rfl) ?_
                refine lv_goto (tgt := 49) hx hb dX1_next_45 (by decide) ?_
                refine lv_istore_n (lv' := [(2, .int (nI o)), (0, .ref m0), (1, .int (nI k')), (3, .int (nI o))]) hx hb dX1_next_49 rfl hl (by decide) rfl (fun ls hl => ?_)
                refine rn_iinc (n := 1) (lv' := [(3, .int (nI (o + 1))), (2, .int (nI o)), (0, .ref m0), (1, .int (nI k'))]) hx hb dX1_next_50 hl (k := 3) rfl (by decide) rfl (fun ls hl => ?_)
                refine lv_goto (tgt := 14) hx hb dX1_next_53 (by decide) ?_
                exact ih (o + 1) o ls (by omega) (by omega) (by omega) (by omega) (by first | exact cn_nx_d (by omega) hinv (by rw [← er25]; exact c_28) (Nat.one_le_iff_ne_zero.mpr (fun q => c_32 (by rw [q]; rfl))) hbb (by rw [← er38]; exact c_41) | exact cn_nx_c (by omega) hinv (by rw [← er25]; exact c_28) (sp_nI0 (by omega) c_32)) (lv_sub hl [2, 3, 1, 0] rfl)
    exact loop (rc + 2) 1 0 ls (by omega) (Nat.le_refl 1) (by omega) (Nat.zero_le _) rfl (lv_sub hl [2, 3, 1, 0] rfl)
  · subst er2
    have hw_k := cn_row_no (ch := sg) (md_R hM) hk_k
    refine lv_if_ne (tgt := 10) hx hb dX1_next_5 (by decide) (fun c_5 => absurd c_5 (not_not_intro (by decide))) (fun c_5 => ?_)
    refine lv_iconst (v := (-1)) hx hb dX1_next_8 (by decide) ?_
    exact pu_iret hx hb hr hlocks (by rw [sp_next, hw_k]) dX1_next_9
set_option maxHeartbeats 4000000 in
set_option maxRecDepth 100000 in
/-- find -/
theorem km_find (l : Launch) (D : va_G) {tys : List (ClassId × FieldType)} {cI : ClassId} (hty : tys[0]? = some (cI, .int)) (m0 ms mt ml md mk : Nat) (wr : va_W) (sg ta le dr so : Nat → Int32) (us rc n sn : Nat) (S : Nat → Nat) (hM : md_S ta le us rc S) (hsn : sn ≤ 20000) : Met l yX1_find wsX1_find ({ frames := 0, cells := 0, slots := 0, locals := 0 }) (pu_Pc D vwCl (md_W cI m0 ms mt ml md mk wr sg ta le dr so us rc n sn) tys [.ref m0]) (vp_Si (fun r => r = md_an (sp_fd (sp_sl so 0 sn) (cn_rows sg S 1 rc) 1))) 0 0 (fun _ => False) := by
  refine pu_of (cc := cX1_find) (maxL := 5) (ret := some .int) (own := RX1) (by decide) rfl rfl (Nat.le_of_ble_eq_true rfl) ?_
  intro p e s m below meth c hx hb hr hts hown hlocks hml hP hK ls hl
  have hl : lv_has ls 5 [(0, .ref m0)] := hl
  have hin1 : ∀ w ∈ u_ws RX1 TX1 9, w ∈ wsX1_find := by decide +kernel
  have f7 := hts (.fieldLink RX1 7 "NameNumbersModel" "signs" "[I") (by decide +kernel)
  have f13 := hts (.fieldLink RX1 13 "NameNumbersModel" "starts" "[I") (by decide +kernel)
  have f16 := hts (.fieldLink RX1 16 "NameNumbersModel" "lengths" "[I") (by decide +kernel)
  have f22 := hts (.fieldLink RX1 22 "NameNumbersModel" "sought" "[I") (by decide +kernel)
  have f30 := hts (.fieldLink RX1 30 "NameNumbersModel" "rows" "I") (by decide +kernel)
  have f33 := hts (.fieldLink RX1 33 "NameNumbersModel" "soughtLength" "I") (by decide +kernel)
  have hrc := hM.2.2.2.2.2
  have found : ∀ (fo k : Nat) (ls : Array Slot), 1 ≤ fo → fo ≤ rc → k ≤ rc + 1 → sp_fd (sp_sl so 0 sn) (cn_rows sg S 1 rc) 1 = some fo → lv_has ls 5 [(0, .ref m0), (1, .int (nI fo)), (2, .int (nI k))] → W p l e { frames := 0, cells := 0, slots := 0, locals := 0 } s m [.ref m0].toArray below meth c s.heap [] 0 0 (MQ below (vp_Si (fun r => r = md_an (sp_fd (sp_sl so 0 sn) (cn_rows sg S 1 rc) 1))) [.ref m0].toArray s 0 0 (fun _ => False)) (F0 m 4 ls []) := by
    intro fo k ls hf1 hf2 hk hF hl
    refine lv_iload_n hx hb dX1_find_4 rfl (lv_at hl 2 rfl) ?_
    refine lv_aload_n hx hb dX1_find_5 rfl (lv_at hl 0 rfl) ?_
    refine va_get (D := D) (ci := 1) (v := .int (nI rc)) (C := RX1) (T := TX1) (N := 9) hx hb hts hin1 hown hK hP 0 rfl rfl 4 (by decide) f30 (fun _ h9 => h9) rfl dX1_find_6 ?_
    refine rn_icmp_gt (tgt := 103) hx hb (by have := hM.2.2.2.2.2; omega) (by have := hM.2.2.2.2.2; omega) dX1_find_9 (by decide) (fun c_9 => ?_) (fun c_9 => ?_)
    · refine lv_iload_n hx hb dX1_find_103 rfl (lv_at hl 1 rfl) ?_
      exact pu_iret hx hb hr hlocks (by rw [hF]; rfl) dX1_find_104
    · refine lv_iload_n hx hb dX1_find_12 rfl (lv_at hl 1 rfl) ?_
      refine lv_if_ne (tgt := 103) hx hb dX1_find_13 (by decide) (fun c_13 => ?_) (fun c_13 => absurd c_13 (fun z => nI_ne0 (by omega) (by omega) z))
      refine lv_iload_n hx hb dX1_find_103 rfl (lv_at hl 1 rfl) ?_
      exact pu_iret hx hb hr hlocks (by rw [hF]; rfl) dX1_find_104
  have loop : ∀ (j : Nat) (k : Nat) (ls : Array Slot), rc + 2 ≤ k + j → 1 ≤ k → k ≤ rc + 1 → sp_fd (sp_sl so 0 sn) (cn_rows sg S 1 rc) 1 = sp_fd (sp_sl so 0 sn) (cn_rows sg S k (rc + 1 - k)) k → lv_has ls 5 [(0, .ref m0), (1, .int (nI 0)), (2, .int (nI k))] → W p l e { frames := 0, cells := 0, slots := 0, locals := 0 } s m [.ref m0].toArray below meth c s.heap [] 0 0 (MQ below (vp_Si (fun r => r = md_an (sp_fd (sp_sl so 0 sn) (cn_rows sg S 1 rc) 1))) [.ref m0].toArray s 0 0 (fun _ => False)) (F0 m 4 ls []) := by
    intro j
    induction j with
    | zero => intro k ls hj hk1 hk2 hinv hl; exfalso; omega
    | succ j ih =>
      intro k ls hj hk1 hk2 hinv hl
      refine lv_iload_n hx hb dX1_find_4 rfl (lv_at hl 2 rfl) ?_
      refine lv_aload_n hx hb dX1_find_5 rfl (lv_at hl 0 rfl) ?_
      refine va_get (D := D) (ci := 1) (v := .int (nI rc)) (C := RX1) (T := TX1) (N := 9) hx hb hts hin1 hown hK hP 0 rfl rfl 4 (by decide) f30 (fun _ h9 => h9) rfl dX1_find_6 ?_
      refine rn_icmp_gt (tgt := 103) hx hb (by have := hM.2.2.2.2.2; omega) (by have := hM.2.2.2.2.2; omega) dX1_find_9 (by decide) (fun c_9 => ?_) (fun c_9 => ?_)
      · refine lv_iload_n hx hb dX1_find_103 rfl (lv_at hl 1 rfl) ?_
        exact pu_iret hx hb hr hlocks (by rw [md_fd_end (by omega) hinv]; rfl) dX1_find_104
      · refine lv_iload_n hx hb dX1_find_12 rfl (lv_at hl 1 rfl) ?_
        refine lv_if_ne (tgt := 103) hx hb dX1_find_13 (by decide) (fun c_13 => absurd c_13 (not_not_intro (by decide))) (fun c_13 => ?_)
        have hlk := hM.2.2.1 k hk1 c_9
        have htk := cn_top (md_R hM) (k := k + 1) (by omega) (by omega)
        have zero : ∀ (i : Nat) (ls : Array Slot), ¬ cn_row sg S k = (sp_sl so 0 sn) → i ≤ sn → lv_has ls 5 [(0, .ref m0), (1, .int (nI 0)), (2, .int (nI k)), (3, .int (nI 0)), (4, .int (nI i))] → W p l e { frames := 0, cells := 0, slots := 0, locals := 0 } s m [.ref m0].toArray below meth c s.heap [] 0 0 (MQ below (vp_Si (fun r => r = md_an (sp_fd (sp_sl so 0 sn) (cn_rows sg S 1 rc) 1))) [.ref m0].toArray s 0 0 (fun _ => False)) (F0 m 38 ls []) := by
          intro i ls hne hi hl
          refine lv_iload hx hb dX1_find_38 (lv_at hl 4 rfl) ?_
          refine lv_aload_n hx hb dX1_find_40 rfl (lv_at hl 0 rfl) ?_
          refine va_get (D := D) (ci := 1) (v := .int (nI sn)) (C := RX1) (T := TX1) (N := 9) hx hb hts hin1 hown hK hP 0 rfl rfl 8 (by decide) f33 (fun _ h9 => h9) rfl dX1_find_41 ?_
          refine rn_icmp_ge (tgt := 87) hx hb (by omega) (by omega) dX1_find_44 (by decide) (fun c_44 => ?_) (fun c_44 => ?_)
          · refine lv_iload_n hx hb dX1_find_87 rfl (lv_at hl 3 rfl) ?_
            refine lv_if_eq (tgt := 95) hx hb dX1_find_88 (by decide) (fun c_88 => ?_) (fun c_88 => absurd c_88 (not_not_intro (by decide)))
            refine lv_iconst (v := nI 0) hx hb dX1_find_95 (by decide) ?_
            refine lv_istore_n (lv' := [(1, .int (nI 0)), (0, .ref m0), (2, .int (nI k)), (3, .int (nI 0)), (4, .int (nI i))]) hx hb dX1_find_96 rfl hl (by decide) rfl (fun ls hl => ?_)
            refine rn_iinc (n := 1) (lv' := [(2, .int (nI (k + 1))), (1, .int (nI 0)), (0, .ref m0), (3, .int (nI 0)), (4, .int (nI i))]) hx hb dX1_find_97 hl (k := 2) rfl (by decide) rfl (fun ls hl => ?_)
            refine lv_goto (tgt := 4) hx hb dX1_find_100 (by decide) ?_
            exact ih (k + 1) ls (by omega) (by omega) (by omega) (cn_fd_miss c_9 hinv hne) (lv_sub hl [2, 1, 0] rfl)
          · refine lv_iload_n hx hb dX1_find_47 rfl (lv_at hl 3 rfl) ?_
            refine lv_if_eq (tgt := 87) hx hb dX1_find_48 (by decide) (fun c_48 => ?_) (fun c_48 => absurd c_48 (not_not_intro (by decide)))
            refine lv_iload_n hx hb dX1_find_87 rfl (lv_at hl 3 rfl) ?_
            refine lv_if_eq (tgt := 95) hx hb dX1_find_88 (by decide) (fun c_88 => ?_) (fun c_88 => absurd c_88 (not_not_intro (by decide)))
            refine lv_iconst (v := nI 0) hx hb dX1_find_95 (by decide) ?_
            refine lv_istore_n (lv' := [(1, .int (nI 0)), (0, .ref m0), (2, .int (nI k)), (3, .int (nI 0)), (4, .int (nI i))]) hx hb dX1_find_96 rfl hl (by decide) rfl (fun ls hl => ?_)
            refine rn_iinc (n := 1) (lv' := [(2, .int (nI (k + 1))), (1, .int (nI 0)), (0, .ref m0), (3, .int (nI 0)), (4, .int (nI i))]) hx hb dX1_find_97 hl (k := 2) rfl (by decide) rfl (fun ls hl => ?_)
            refine lv_goto (tgt := 4) hx hb dX1_find_100 (by decide) ?_
            exact ih (k + 1) ls (by omega) (by omega) (by omega) (cn_fd_miss c_9 hinv hne) (lv_sub hl [2, 1, 0] rfl)
        have one : ∀ (j2 i : Nat) (ls : Array Slot), sn + 1 ≤ i + j2 → i ≤ sn → S (k + 1) - S k = sn → (∀ z, z < i → sg (S k + z) = so z) → lv_has ls 5 [(0, .ref m0), (1, .int (nI 0)), (2, .int (nI k)), (3, .int (nI 1)), (4, .int (nI i))] → W p l e { frames := 0, cells := 0, slots := 0, locals := 0 } s m [.ref m0].toArray below meth c s.heap [] 0 0 (MQ below (vp_Si (fun r => r = md_an (sp_fd (sp_sl so 0 sn) (cn_rows sg S 1 rc) 1))) [.ref m0].toArray s 0 0 (fun _ => False)) (F0 m 38 ls []) := by
          intro j2
          induction j2 with
          | zero => intro i ls hj2 hi hlen hin hl; exfalso; omega
          | succ j2 ih2 =>
            intro i ls hj2 hi hlen hin hl
            refine lv_iload hx hb dX1_find_38 (lv_at hl 4 rfl) ?_
            refine lv_aload_n hx hb dX1_find_40 rfl (lv_at hl 0 rfl) ?_
            refine va_get (D := D) (ci := 1) (v := .int (nI sn)) (C := RX1) (T := TX1) (N := 9) hx hb hts hin1 hown hK hP 0 rfl rfl 8 (by decide) f33 (fun _ h9 => h9) rfl dX1_find_41 ?_
            refine rn_icmp_ge (tgt := 87) hx hb (by omega) (by omega) dX1_find_44 (by decide) (fun c_44 => ?_) (fun c_44 => ?_)
            · refine lv_iload_n hx hb dX1_find_87 rfl (lv_at hl 3 rfl) ?_
              refine lv_if_eq (tgt := 95) hx hb dX1_find_88 (by decide) (fun c_88 => absurd c_88 (by decide)) (fun c_88 => ?_)
              refine lv_iload_n hx hb dX1_find_91 rfl (lv_at hl 2 rfl) ?_
              refine lv_goto (tgt := 96) hx hb dX1_find_92 (by decide) ?_
              refine lv_istore_n (lv' := [(1, .int (nI k)), (0, .ref m0), (2, .int (nI k)), (3, .int (nI 1)), (4, .int (nI i))]) hx hb dX1_find_96 rfl hl (by decide) rfl (fun ls hl => ?_)
              refine rn_iinc (n := 1) (lv' := [(2, .int (nI (k + 1))), (1, .int (nI k)), (0, .ref m0), (3, .int (nI 1)), (4, .int (nI i))]) hx hb dX1_find_97 hl (k := 2) rfl (by decide) rfl (fun ls hl => ?_)
              refine lv_goto (tgt := 4) hx hb dX1_find_100 (by decide) ?_
              exact found k (k + 1) ls hk1 c_9 (by omega) (md_fd_hit c_9 hinv (by rw [cn_row, hlen, show sn = i by omega]; exact sp_ext (fun z hz => by rw [Nat.zero_add]; exact hin z hz))) (lv_sub hl [2, 1, 0] rfl)
            · refine lv_iload_n hx hb dX1_find_47 rfl (lv_at hl 3 rfl) ?_
              refine lv_if_eq (tgt := 87) hx hb dX1_find_48 (by decide) (fun c_48 => absurd c_48 (by decide)) (fun c_48 => ?_)
              refine lv_aload_n hx hb dX1_find_51 rfl (lv_at hl 0 rfl) ?_
              refine va_get (D := D) (ci := 1) (v := .ref ms) (C := RX1) (T := TX1) (N := 9) hx hb hts hin1 hown hK hP 0 rfl rfl 0 (by decide) f7 (fun _ h9 => h9) rfl dX1_find_52 ?_
              refine lv_aload_n hx hb dX1_find_55 rfl (lv_at hl 0 rfl) ?_
              refine va_get (D := D) (ci := 1) (v := .ref mt) (C := RX1) (T := TX1) (N := 9) hx hb hts hin1 hown hK hP 0 rfl rfl 2 (by decide) f13 (fun _ h9 => h9) rfl dX1_find_56 ?_
              refine lv_iload_n hx hb dX1_find_59 rfl (lv_at hl 2 rfl) ?_
              refine rn_ald (v := nI (S k)) hx hb hK hP 2 0 rfl hty (by have := hM.2.2.2.2.2; omega) (by decide) ((hM.2.1 k (by omega) (by omega)).1) dX1_find_60 ?_
              refine lv_iload hx hb dX1_find_61 (lv_at hl 4 rfl) ?_
              refine rn_iadd hx hb dX1_find_63 ?_
              refine rn_ald (v := sg (S k + i)) hx hb hK hP 1 0 rfl hty (by omega) (by decide) (rfl) dX1_find_64 ?_
              refine lv_aload_n hx hb dX1_find_65 rfl (lv_at hl 0 rfl) ?_
              refine va_get (D := D) (ci := 1) (v := .ref mk) (C := RX1) (T := TX1) (N := 9) hx hb hts hin1 hown hK hP 0 rfl rfl 7 (by decide) f22 (fun _ h9 => h9) rfl dX1_find_66 ?_
              refine lv_iload hx hb dX1_find_69 (lv_at hl 4 rfl) ?_
              refine rn_ald (v := so i) hx hb hK hP 5 0 rfl hty (by omega) (by decide) (rfl) dX1_find_71 ?_
              refine lv_icmp_ne (tgt := 79) hx hb dX1_find_72 (by decide) (fun c_72 => ?_) (fun c_72 => ?_)
              · refine lv_iconst (v := nI 0) hx hb dX1_find_79 (by decide) ?_
                refine lv_istore_n (lv' := [(3, .int (nI 0)), (0, .ref m0), (1, .int (nI 0)), (2, .int (nI k)), (4, .int (nI i))]) hx hb dX1_find_80 rfl hl (by decide) rfl (fun ls hl => ?_)
                refine rn_iinc (n := 1) (lv' := [(4, .int (nI (i + 1))), (3, .int (nI 0)), (0, .ref m0), (1, .int (nI 0)), (2, .int (nI k))]) hx hb dX1_find_81 hl (k := 4) rfl (by decide) rfl (fun ls hl => ?_)
                refine lv_goto (tgt := 38) hx hb dX1_find_84 (by decide) ?_
                exact zero (i + 1) ls (md_ne hlen (by omega) c_72) (by omega) (lv_sub hl [2, 3, 4, 1, 0] rfl)
              · refine lv_iconst (v := nI 1) hx hb dX1_find_75 (by decide) ?_
                refine lv_goto (tgt := 80) hx hb dX1_find_76 (by decide) ?_
                refine lv_istore_n (lv' := [(3, .int (nI 1)), (0, .ref m0), (1, .int (nI 0)), (2, .int (nI k)), (4, .int (nI i))]) hx hb dX1_find_80 rfl hl (by decide) rfl (fun ls hl => ?_)
                refine rn_iinc (n := 1) (lv' := [(4, .int (nI (i + 1))), (3, .int (nI 1)), (0, .ref m0), (1, .int (nI 0)), (2, .int (nI k))]) hx hb dX1_find_81 hl (k := 4) rfl (by decide) rfl (fun ls hl => ?_)
                refine lv_goto (tgt := 38) hx hb dX1_find_84 (by decide) ?_
                exact ih2 (i + 1) ls (by omega) (by omega) hlen (fun z h2 => (Nat.lt_or_ge z i).elim (fun q => hin z q) (fun q => by rw [show z = i by omega]; exact c_72)) (lv_sub hl [2, 3, 4, 1, 0] rfl)
        refine lv_aload_n hx hb dX1_find_16 rfl (lv_at hl 0 rfl) ?_
        refine va_get (D := D) (ci := 1) (v := .ref ml) (C := RX1) (T := TX1) (N := 9) hx hb hts hin1 hown hK hP 0 rfl rfl 3 (by decide) f16 (fun _ h9 => h9) rfl dX1_find_17 ?_
        refine lv_iload_n hx hb dX1_find_20 rfl (lv_at hl 2 rfl) ?_
        refine rn_ald (v := nI (S (k + 1) - S k)) hx hb hK hP 3 0 rfl hty (by have := hM.2.2.2.2.2; omega) (by decide) ((hM.2.1 k (by omega) (by omega)).2) dX1_find_21 ?_
        refine lv_aload_n hx hb dX1_find_22 rfl (lv_at hl 0 rfl) ?_
        refine va_get (D := D) (ci := 1) (v := .int (nI sn)) (C := RX1) (T := TX1) (N := 9) hx hb hts hin1 hown hK hP 0 rfl rfl 8 (by decide) f33 (fun _ h9 => h9) rfl dX1_find_23 ?_
        refine rn_icmp_ne (tgt := 33) hx hb (by omega) (by omega) dX1_find_26 (by decide) (fun c_26 => ?_) (fun c_26 => ?_)
        · refine lv_iconst (v := nI 0) hx hb dX1_find_33 (by decide) ?_
          refine lv_istore_n (lv' := [(3, .int (nI 0)), (0, .ref m0), (1, .int (nI 0)), (2, .int (nI k))]) hx hb dX1_find_34 rfl hl (by decide) rfl (fun ls hl => ?_)
          refine lv_iconst (v := nI 0) hx hb dX1_find_35 (by decide) ?_
          refine lv_istore (lv' := [(4, .int (nI 0)), (3, .int (nI 0)), (0, .ref m0), (1, .int (nI 0)), (2, .int (nI k))]) hx hb dX1_find_36 hl (by decide) rfl (fun ls hl => ?_)
          exact zero 0 ls (fun q => c_26 (by have := congrArg List.length q; rw [cn_row, sp_len, sp_len] at this; exact this)) (by omega) (lv_sub hl [2, 3, 4, 1, 0] rfl)
        · refine lv_iconst (v := nI 1) hx hb dX1_find_29 (by decide) ?_
          refine lv_goto (tgt := 34) hx hb dX1_find_30 (by decide) ?_
          refine lv_istore_n (lv' := [(3, .int (nI 1)), (0, .ref m0), (1, .int (nI 0)), (2, .int (nI k))]) hx hb dX1_find_34 rfl hl (by decide) rfl (fun ls hl => ?_)
          refine lv_iconst (v := nI 0) hx hb dX1_find_35 (by decide) ?_
          refine lv_istore (lv' := [(4, .int (nI 0)), (3, .int (nI 1)), (0, .ref m0), (1, .int (nI 0)), (2, .int (nI k))]) hx hb dX1_find_36 hl (by decide) rfl (fun ls hl => ?_)
          exact one (sn + 1) 0 ls (by omega) (Nat.zero_le _) c_26 (fun z h => absurd h (Nat.not_lt_zero z)) (lv_sub hl [2, 3, 4, 1, 0] rfl)
  refine lv_iconst (v := nI 0) hx hb dX1_find_0 (by decide) ?_
  refine lv_istore_n (lv' := [(1, .int (nI 0)), (0, .ref m0)]) hx hb dX1_find_1 rfl hl (by decide) rfl (fun ls hl => ?_)
  refine lv_iconst (v := nI 1) hx hb dX1_find_2 (by decide) ?_
  refine lv_istore_n (lv' := [(2, .int (nI 1)), (1, .int (nI 0)), (0, .ref m0)]) hx hb dX1_find_3 rfl hl (by decide) rfl (fun ls hl => ?_)
  exact loop (rc + 2) 1 ls (by omega) (Nat.le_refl 1) (by omega) rfl (lv_sub hl [2, 1, 0] rfl)
end
section
theorem md_ge {r : Int32} (h : 0 ≤ r) : ¬ r = -1 := by
  intro q
  subst q
  exact absurd h (by decide)
theorem md_neg {rows rows' : List (List Int32)} {d : List Int32} {r : Int32} (hl : rows.length ≤ 3000) (h : sp_numberOf rows d = (rows', r)) (hr : ¬ 0 ≤ r) : r = -1 := by
  rcases sp_nb_ans (d := d) hl with q | ⟨k, hk, q⟩
  · rw [h] at q; exact q
  · rw [h] at q
    have q : r = nI k := q
    rw [q] at hr
    exact absurd (nI_pos' hk) hr
theorem md_tk {dr f sg : Nat → Int32} {S : Nat → Nat} {n k i : Nat} (h : S (k + 1) - S k = i) (i1 : ∀ z, z < n → f z = dr z) (i2 : ∀ z, z < i → f (n + z) = sg (S k + z)) : sp_sl dr 0 n ++ cn_row sg S k = sp_sl f 0 (n + i) := by
  rw [sp_app f 0 n i]
  unfold cn_row
  rw [h]
  congr 1
  · apply sp_ext
    intro z hz
    rw [Nat.zero_add]
    exact (i1 z hz).symm
  · apply sp_ext
    intro z hz
    rw [Nat.zero_add]
    exact (i2 z hz).symm
end
section
set_option maxHeartbeats 4000000 in
set_option maxRecDepth 100000 in
/-- cut -/
theorem km_cut (l : Launch) (D : va_G) {tys : List (ClassId × FieldType)} {cI : ClassId} (hty : tys[0]? = some (cI, .int)) (m0 ms mt ml md mk : Nat) (wr : va_W) (sg ta le dr so : Nat → Int32) (us rc n sn : Nat) (A : Nat → Prop) (S : Nat → Nat) (hM : md_S ta le us rc S) (hn : n ≤ 2000) (hsn : sn ≤ 20000) (k : Int32) : Met l yX1_cut wsX1_cut ({ frames := 0, cells := 0, slots := 0, locals := 0 }) (mu_Pc D vwCl (md_W cI m0 ms mt ml md mk wr sg ta le dr so us rc n sn) tys A [.ref m0, .int k]) (va_Qi (fun r w => md_Ok cI (md_W cI m0 ms mt ml md mk wr) (sp_cut (sp_sl dr 0 n) k).1 (cn_rows sg S 1 rc) w ∧ r = (sp_cut (sp_sl dr 0 n) k).2) (mu_B D vwCl tys A) A) 0 0 A := by
  refine mu_of (cc := cX1_cut) (maxL := 3) (ret := some .int) (own := RX1) (by decide) rfl rfl (Nat.le_of_ble_eq_true rfl) ?_
  intro p e s m below meth c hx hb hr hts hown hlocks hml hP hK hD hS ls hl
  have hl : lv_has ls 3 [(0, .ref m0), (1, .int k)] := hl
  have hin1 : ∀ w ∈ u_ws RX1 TX1 9, w ∈ wsX1_cut := by decide +kernel
  have f26 := hts (.fieldLink RX1 26 "NameNumbersModel" "written" "I") (by decide +kernel)
  have hP : va_P D vwCl (md_W cI m0 ms mt ml md mk wr sg ta le dr so us rc n sn) s.heap := hP
  refine lv_iload_n hx hb dX1_cut_0 rfl (lv_at hl 1 rfl) ?_
  refine lv_if_lt (tgt := 12) hx hb dX1_cut_1 (by decide) (fun c_1 => ?_) (fun c_1 => ?_)
  · refine lv_iconst (v := (-1)) hx hb dX1_cut_12 (by decide) ?_
    exact mu_iret hx hb hr hlocks hP hK hD hS (by rw [cn_cut_no (by first | exact Or.inl c_1 | (right; rw [sp_len]; exact nI_lt c_9 hx31))]; exact ⟨⟨sg, ta, le, dr, so, us, rc, n, sn, S, rfl, hn, hsn, hM, rfl, rfl⟩, rfl⟩) dX1_cut_13
  · obtain ⟨x, hx31, rfl⟩ := nI_of c_1
    refine lv_iload_n hx hb dX1_cut_4 rfl (lv_at hl 1 rfl) ?_
    refine lv_aload_n hx hb dX1_cut_5 rfl (lv_at hl 0 rfl) ?_
    refine va_get (D := D) (ci := 1) (v := .int (nI n)) (C := RX1) (T := TX1) (N := 9) hx hb hts hin1 hown hK hP 0 rfl rfl 6 (by decide) f26 (fun _ h9 => h9) rfl dX1_cut_6 ?_
    refine rn_icmp_le (tgt := 14) hx hb (by omega) (by omega) dX1_cut_9 (by decide) (fun c_9 => ?_) (fun c_9 => ?_)
    · refine lv_aload_n hx hb dX1_cut_14 rfl (lv_at hl 0 rfl) ?_
      refine va_get (D := D) (ci := 1) (v := .int (nI n)) (C := RX1) (T := TX1) (N := 9) hx hb hts hin1 hown hK hP 0 rfl rfl 6 (by decide) f26 (fun _ h9 => h9) rfl dX1_cut_15 ?_
      refine lv_istore_n (lv' := [(2, .int (nI n)), (0, .ref m0), (1, .int (nI x))]) hx hb dX1_cut_18 rfl hl (by decide) rfl (fun ls hl => ?_)
      refine lv_aload_n hx hb dX1_cut_19 rfl (lv_at hl 1 rfl) ?_
      refine lv_iload_n hx hb dX1_cut_20 rfl (lv_at hl 2 rfl) ?_
      refine va_put (D := D) (ci := 1) (v := .int (nI x)) (ty := .int) (C := RX1) (T := TX1) (N := 9) hx hb hts hin1 tyX1 tyX1_ok nmX1 hown hK hP hD hS 0 rfl rfl 6 (by decide) f26 (fun _ h9 => h9) rfl (by decide +kernel) rfl rfl (Nat.le_of_ble_eq_true rfl) dX1_cut_21 (fun H locs hP hD hS => ?_)
      have hP : va_P D vwCl ((m0, .inr (1, [.ref ms, .int (nI us), .ref mt, .ref ml, .int (nI rc), .ref md, .int (nI x), .ref mk, .int (nI sn)])) :: (ms, .inl (cI, 20000, .inl sg)) :: (mt, .inl (cI, 3001, .inl ta)) :: (ml, .inl (cI, 3001, .inl le)) :: (md, .inl (cI, 2000, .inl dr)) :: (mk, .inl (cI, 20000, .inl so)) :: wr) H := hP
      have hD : va_D A ((m0, .inr (1, [.ref ms, .int (nI us), .ref mt, .ref ml, .int (nI rc), .ref md, .int (nI x), .ref mk, .int (nI sn)])) :: (ms, .inl (cI, 20000, .inl sg)) :: (mt, .inl (cI, 3001, .inl ta)) :: (ml, .inl (cI, 3001, .inl le)) :: (md, .inl (cI, 2000, .inl dr)) :: (mk, .inl (cI, 20000, .inl so)) :: wr) := hD
      refine lv_iload_n hx hb dX1_cut_24 rfl (lv_at hl 0 rfl) ?_
      exact mu_iret hx hb hr hlocks hP hK hD hS (by rw [cn_cut_yes (by rw [sp_len]; exact c_9) (by rw [sp_len]; omega), sp_take _ _ _ _ c_9, sp_len]; exact ⟨⟨sg, ta, le, dr, so, us, rc, x, sn, S, rfl, by omega, hsn, hM, rfl, rfl⟩, rfl⟩) dX1_cut_25
    · refine lv_iconst (v := (-1)) hx hb dX1_cut_12 (by decide) ?_
      exact mu_iret hx hb hr hlocks hP hK hD hS (by rw [cn_cut_no (by first | exact Or.inl c_1 | (right; rw [sp_len]; exact nI_lt c_9 hx31))]; exact ⟨⟨sg, ta, le, dr, so, us, rc, n, sn, S, rfl, hn, hsn, hM, rfl, rfl⟩, rfl⟩) dX1_cut_13
set_option maxHeartbeats 4000000 in
set_option maxRecDepth 100000 in
/-- clear -/
theorem km_clear (l : Launch) (D : va_G) {tys : List (ClassId × FieldType)} {cI : ClassId} (hty : tys[0]? = some (cI, .int)) (m0 ms mt ml md mk : Nat) (wr : va_W) (sg ta le dr so : Nat → Int32) (us rc n sn : Nat) (A : Nat → Prop) (S : Nat → Nat) (hM : md_S ta le us rc S) (hn : n ≤ 2000) (hsn : sn ≤ 20000) : Met l yX1_clear wsX1_clear ({ frames := 0, cells := 0, slots := 0, locals := 0 }) (mu_Pc D vwCl (md_W cI m0 ms mt ml md mk wr sg ta le dr so us rc n sn) tys A [.ref m0]) (va_Qi (fun r w => md_Ok cI (md_W cI m0 ms mt ml md mk wr) (sp_sl dr 0 n) [] w ∧ r = nI (cn_rows sg S 1 rc).length) (mu_B D vwCl tys A) A) 0 0 A := by
  refine mu_of (cc := cX1_clear) (maxL := 2) (ret := some .int) (own := RX1) (by decide) rfl rfl (Nat.le_of_ble_eq_true rfl) ?_
  intro p e s m below meth c hx hb hr hts hown hlocks hml hP hK hD hS ls hl
  have hl : lv_has ls 2 [(0, .ref m0)] := hl
  have hin1 : ∀ w ∈ u_ws RX1 TX1 9, w ∈ wsX1_clear := by decide +kernel
  have f30 := hts (.fieldLink RX1 30 "NameNumbersModel" "rows" "I") (by decide +kernel)
  have f40 := hts (.fieldLink RX1 40 "NameNumbersModel" "used" "I") (by decide +kernel)
  have hP : va_P D vwCl (md_W cI m0 ms mt ml md mk wr sg ta le dr so us rc n sn) s.heap := hP
  refine lv_aload_n hx hb dX1_clear_0 rfl (lv_at hl 0 rfl) ?_
  refine va_get (D := D) (ci := 1) (v := .int (nI rc)) (C := RX1) (T := TX1) (N := 9) hx hb hts hin1 hown hK hP 0 rfl rfl 4 (by decide) f30 (fun _ h9 => h9) rfl dX1_clear_1 ?_
  refine lv_istore_n (lv' := [(1, .int (nI rc)), (0, .ref m0)]) hx hb dX1_clear_4 rfl hl (by decide) rfl (fun ls hl => ?_)
  refine lv_aload_n hx hb dX1_clear_5 rfl (lv_at hl 1 rfl) ?_
  refine lv_iconst (v := nI 0) hx hb dX1_clear_6 (by decide) ?_
  refine va_put (D := D) (ci := 1) (v := .int (nI 0)) (ty := .int) (C := RX1) (T := TX1) (N := 9) hx hb hts hin1 tyX1 tyX1_ok nmX1 hown hK hP hD hS 0 rfl rfl 4 (by decide) f30 (fun _ h9 => h9) rfl (by decide +kernel) rfl rfl (Nat.le_of_ble_eq_true rfl) dX1_clear_7 (fun H locs hP hD hS => ?_)
  have hP : va_P D vwCl ((m0, .inr (1, [.ref ms, .int (nI us), .ref mt, .ref ml, .int (nI 0), .ref md, .int (nI n), .ref mk, .int (nI sn)])) :: (ms, .inl (cI, 20000, .inl sg)) :: (mt, .inl (cI, 3001, .inl ta)) :: (ml, .inl (cI, 3001, .inl le)) :: (md, .inl (cI, 2000, .inl dr)) :: (mk, .inl (cI, 20000, .inl so)) :: wr) H := hP
  have hD : va_D A ((m0, .inr (1, [.ref ms, .int (nI us), .ref mt, .ref ml, .int (nI 0), .ref md, .int (nI n), .ref mk, .int (nI sn)])) :: (ms, .inl (cI, 20000, .inl sg)) :: (mt, .inl (cI, 3001, .inl ta)) :: (ml, .inl (cI, 3001, .inl le)) :: (md, .inl (cI, 2000, .inl dr)) :: (mk, .inl (cI, 20000, .inl so)) :: wr) := hD
  refine lv_aload_n hx hb dX1_clear_10 rfl (lv_at hl 1 rfl) ?_
  refine lv_iconst (v := nI 0) hx hb dX1_clear_11 (by decide) ?_
  refine va_put (D := D) (ci := 1) (v := .int (nI 0)) (ty := .int) (C := RX1) (T := TX1) (N := 9) hx hb hts hin1 tyX1 tyX1_ok nmX1 hown hK hP hD hS 0 rfl rfl 1 (by decide) f40 (fun _ h9 => h9) rfl (by decide +kernel) rfl rfl (Nat.le_of_ble_eq_true rfl) dX1_clear_12 (fun H locs hP hD hS => ?_)
  have hP : va_P D vwCl ((m0, .inr (1, [.ref ms, .int (nI 0), .ref mt, .ref ml, .int (nI 0), .ref md, .int (nI n), .ref mk, .int (nI sn)])) :: (ms, .inl (cI, 20000, .inl sg)) :: (mt, .inl (cI, 3001, .inl ta)) :: (ml, .inl (cI, 3001, .inl le)) :: (md, .inl (cI, 2000, .inl dr)) :: (mk, .inl (cI, 20000, .inl so)) :: wr) H := hP
  have hD : va_D A ((m0, .inr (1, [.ref ms, .int (nI 0), .ref mt, .ref ml, .int (nI 0), .ref md, .int (nI n), .ref mk, .int (nI sn)])) :: (ms, .inl (cI, 20000, .inl sg)) :: (mt, .inl (cI, 3001, .inl ta)) :: (ml, .inl (cI, 3001, .inl le)) :: (md, .inl (cI, 2000, .inl dr)) :: (mk, .inl (cI, 20000, .inl so)) :: wr) := hD
  refine lv_iload_n hx hb dX1_clear_15 rfl (lv_at hl 0 rfl) ?_
  exact mu_iret hx hb hr hlocks hP hK hD hS (⟨⟨sg, ta, le, dr, so, 0, 0, n, sn, S, rfl, hn, hsn, md_S_0 hM, rfl, rfl⟩, by rw [cn_rows_len]⟩) dX1_clear_16
set_option maxHeartbeats 4000000 in
set_option maxRecDepth 100000 in
/-- seekDraft -/
theorem km_seekDraft (l : Launch) (D : va_G) {tys : List (ClassId × FieldType)} {cI : ClassId} (hty : tys[0]? = some (cI, .int)) (m0 ms mt ml md mk : Nat) (wr : va_W) (sg ta le dr so : Nat → Int32) (us rc n sn : Nat) (A : Nat → Prop) (hn : n ≤ 2000) : Met l yX1_seekDraft wsX1_seekDraft ({ frames := 0, cells := 0, slots := 0, locals := 0 }) (mu_Pc D vwCl (md_W cI m0 ms mt ml md mk wr sg ta le dr so us rc n sn) tys A [.ref m0]) (va_Qv (fun w => ∃ so' : Nat → Int32, w = md_W cI m0 ms mt ml md mk wr sg ta le dr so' us rc n n ∧ sp_sl so' 0 n = sp_sl dr 0 n) (mu_B D vwCl tys A) A) 0 0 A := by
  refine mv_of (cc := cX1_seekDraft) (maxL := 2) (own := RX1) (by decide) rfl rfl (Nat.le_of_ble_eq_true rfl) ?_
  intro p e s m below meth c hx hb hr hts hown hlocks hml hP hK hD hS ls hl
  have hl : lv_has ls 2 [(0, .ref m0)] := hl
  have hin1 : ∀ w ∈ u_ws RX1 TX1 9, w ∈ wsX1_seekDraft := by decide +kernel
  have f19 := hts (.fieldLink RX1 19 "NameNumbersModel" "draft" "[I") (by decide +kernel)
  have f22 := hts (.fieldLink RX1 22 "NameNumbersModel" "sought" "[I") (by decide +kernel)
  have f26 := hts (.fieldLink RX1 26 "NameNumbersModel" "written" "I") (by decide +kernel)
  have f33 := hts (.fieldLink RX1 33 "NameNumbersModel" "soughtLength" "I") (by decide +kernel)
  have hP : va_P D vwCl (md_W cI m0 ms mt ml md mk wr sg ta le dr so us rc n sn) s.heap := hP
  refine lv_aload_n hx hb dX1_seekDraft_0 rfl (lv_at hl 0 rfl) ?_
  refine lv_aload_n hx hb dX1_seekDraft_1 rfl (lv_at hl 0 rfl) ?_
  refine va_get (D := D) (ci := 1) (v := .int (nI n)) (C := RX1) (T := TX1) (N := 9) hx hb hts hin1 hown hK hP 0 rfl rfl 6 (by decide) f26 (fun _ h9 => h9) rfl dX1_seekDraft_2 ?_
  refine va_put (D := D) (ci := 1) (v := .int (nI n)) (ty := .int) (C := RX1) (T := TX1) (N := 9) hx hb hts hin1 tyX1 tyX1_ok nmX1 hown hK hP hD hS 0 rfl rfl 8 (by decide) f33 (fun _ h9 => h9) rfl (by decide +kernel) rfl rfl (Nat.le_of_ble_eq_true rfl) dX1_seekDraft_5 (fun H locs hP hD hS => ?_)
  have hP : va_P D vwCl ((m0, .inr (1, [.ref ms, .int (nI us), .ref mt, .ref ml, .int (nI rc), .ref md, .int (nI n), .ref mk, .int (nI n)])) :: (ms, .inl (cI, 20000, .inl sg)) :: (mt, .inl (cI, 3001, .inl ta)) :: (ml, .inl (cI, 3001, .inl le)) :: (md, .inl (cI, 2000, .inl dr)) :: (mk, .inl (cI, 20000, .inl so)) :: wr) H := hP
  have hD : va_D A ((m0, .inr (1, [.ref ms, .int (nI us), .ref mt, .ref ml, .int (nI rc), .ref md, .int (nI n), .ref mk, .int (nI n)])) :: (ms, .inl (cI, 20000, .inl sg)) :: (mt, .inl (cI, 3001, .inl ta)) :: (ml, .inl (cI, 3001, .inl le)) :: (md, .inl (cI, 2000, .inl dr)) :: (mk, .inl (cI, 20000, .inl so)) :: wr) := hD
  refine lv_iconst (v := nI 0) hx hb dX1_seekDraft_8 (by decide) ?_
  refine lv_istore_n (lv' := [(1, .int (nI 0)), (0, .ref m0)]) hx hb dX1_seekDraft_9 rfl hl (by decide) rfl (fun ls hl => ?_)
  have loop : ∀ (j : Nat) (i : Nat) (f : Nat → Int32) (H : Heap) (locs : List Loc) (ls : Array Slot), n + 1 ≤ i + j → i ≤ n → (∀ z, z < i → f z = dr z) → va_P D vwCl (md_W cI m0 ms mt ml md mk wr sg ta le dr f us rc n n) H → va_D A (md_W cI m0 ms mt ml md mk wr sg ta le dr f us rc n n) → va_S A s.heap H locs → lv_has ls 2 [(0, .ref m0), (1, .int (nI i))] → W p l e { frames := 0, cells := 0, slots := 0, locals := 0 } s m [.ref m0].toArray below meth c H locs 0 0 (MQ below (va_Qv (fun w => ∃ so' : Nat → Int32, w = md_W cI m0 ms mt ml md mk wr sg ta le dr so' us rc n n ∧ sp_sl so' 0 n = sp_sl dr 0 n) (mu_B D vwCl tys A) A) [.ref m0].toArray s 0 0 A) (F0 m 10 ls []) := by
    intro j
    induction j with
    | zero => intro i f H locs ls hj hi hinv hP hD hS hl; exfalso; omega
    | succ j ih =>
      intro i f H locs ls hj hi hinv hP hD hS hl
      refine lv_iload_n hx hb dX1_seekDraft_10 rfl (lv_at hl 1 rfl) ?_
      refine lv_aload_n hx hb dX1_seekDraft_11 rfl (lv_at hl 0 rfl) ?_
      refine va_get (D := D) (ci := 1) (v := .int (nI n)) (C := RX1) (T := TX1) (N := 9) hx hb hts hin1 hown hK hP 0 rfl rfl 6 (by decide) f26 (fun _ h9 => h9) rfl dX1_seekDraft_12 ?_
      refine rn_icmp_ge (tgt := 36) hx hb (by omega) (by omega) dX1_seekDraft_15 (by decide) (fun c_15 => ?_) (fun c_15 => ?_)
      · exact mk_vret hx hb hr hlocks hP hK hD hS (⟨f, rfl, sp_ext (fun z hz => by rw [Nat.zero_add]; exact hinv z (by omega))⟩) dX1_seekDraft_36
      · refine lv_aload_n hx hb dX1_seekDraft_18 rfl (lv_at hl 0 rfl) ?_
        refine va_get (D := D) (ci := 1) (v := .ref mk) (C := RX1) (T := TX1) (N := 9) hx hb hts hin1 hown hK hP 0 rfl rfl 7 (by decide) f22 (fun _ h9 => h9) rfl dX1_seekDraft_19 ?_
        refine lv_iload_n hx hb dX1_seekDraft_22 rfl (lv_at hl 1 rfl) ?_
        refine lv_aload_n hx hb dX1_seekDraft_23 rfl (lv_at hl 0 rfl) ?_
        refine va_get (D := D) (ci := 1) (v := .ref md) (C := RX1) (T := TX1) (N := 9) hx hb hts hin1 hown hK hP 0 rfl rfl 5 (by decide) f19 (fun _ h9 => h9) rfl dX1_seekDraft_24 ?_
        refine lv_iload_n hx hb dX1_seekDraft_27 rfl (lv_at hl 1 rfl) ?_
        refine rn_ald (v := dr i) hx hb hK hP 4 0 rfl hty (by omega) (by decide) (rfl) dX1_seekDraft_28 ?_
        refine rn_ast hx hb hK hP hD hS 5 0 rfl hty (by omega) (by decide) dX1_seekDraft_29 (fun H locs hP hD hS => ?_)
        have hP : va_P D vwCl ((m0, .inr (1, [.ref ms, .int (nI us), .ref mt, .ref ml, .int (nI rc), .ref md, .int (nI n), .ref mk, .int (nI n)])) :: (ms, .inl (cI, 20000, .inl sg)) :: (mt, .inl (cI, 3001, .inl ta)) :: (ml, .inl (cI, 3001, .inl le)) :: (md, .inl (cI, 2000, .inl dr)) :: (mk, .inl (cI, 20000, .inl (upd f i (dr i)))) :: wr) H := hP
        have hD : va_D A ((m0, .inr (1, [.ref ms, .int (nI us), .ref mt, .ref ml, .int (nI rc), .ref md, .int (nI n), .ref mk, .int (nI n)])) :: (ms, .inl (cI, 20000, .inl sg)) :: (mt, .inl (cI, 3001, .inl ta)) :: (ml, .inl (cI, 3001, .inl le)) :: (md, .inl (cI, 2000, .inl dr)) :: (mk, .inl (cI, 20000, .inl (upd f i (dr i)))) :: wr) := hD
        refine rn_iinc (n := 1) (lv' := [(1, .int (nI (i + 1))), (0, .ref m0)]) hx hb dX1_seekDraft_30 hl (k := 1) rfl (by decide) rfl (fun ls hl => ?_)
        refine lv_goto (tgt := 10) hx hb dX1_seekDraft_33 (by decide) ?_
        exact ih (i + 1) (upd f i (dr i)) H locs ls (by omega) (by omega) (fun z hz => (Nat.lt_or_ge z i).elim (fun h => by rw [pk_un (by omega)]; exact hinv z h) (fun h => by rw [show z = i by omega, pk_us])) hP hD hS (lv_sub hl [1, 0] rfl)
  exact loop (n + 1) 0 so H locs ls (by omega) (Nat.zero_le _) (fun z hz => absurd hz (Nat.not_lt_zero z)) hP hD hS (lv_sub hl [1, 0] rfl)
set_option maxHeartbeats 4000000 in
set_option maxRecDepth 100000 in
/-- get -/
theorem km_get (l : Launch) (D : va_G) {tys : List (ClassId × FieldType)} {cI : ClassId} (hty : tys[0]? = some (cI, .int)) (m0 ms mt ml md mk : Nat) (wr : va_W) (sg ta le dr so : Nat → Int32) (us rc n sn : Nat) (A : Nat → Prop) (S : Nat → Nat) (hM : md_S ta le us rc S) (hn : n ≤ 2000) (hsn : sn ≤ 20000) : Met l yX1_get wsX1_get ({ frames := 1, cells := 0, slots := 0, locals := 24 }) (mu_Pc D vwCl (md_W cI m0 ms mt ml md mk wr sg ta le dr so us rc n sn) tys A [.ref m0]) (va_Qi (fun r w => ∃ (sg' ta' le' : Nat → Int32) (us' rc' : Nat) (S' : Nat → Nat), w = md_W cI m0 ms mt ml md mk wr sg' ta' le' dr so us' rc' n sn ∧ md_S ta' le' us' rc' S' ∧ sp_numberOf (cn_rows sg S 1 rc) (sp_sl so 0 sn) = (cn_rows sg' S' 1 rc', r)) (mu_B D vwCl tys A) A) 0 0 A := by
  refine mu_of (cc := cX1_get) (maxL := 3) (ret := some .int) (own := RX1) (by decide) rfl rfl (Nat.le_of_ble_eq_true rfl) ?_
  intro p e s m below meth c hx hb hr hts hown hlocks hml hP hK hD hS ls hl
  have hl : lv_has ls 3 [(0, .ref m0)] := hl
  have hin1 : ∀ w ∈ u_ws RX1 TX1 9, w ∈ wsX1_get := by decide +kernel
  have f7 := hts (.fieldLink RX1 7 "NameNumbersModel" "signs" "[I") (by decide +kernel)
  have f13 := hts (.fieldLink RX1 13 "NameNumbersModel" "starts" "[I") (by decide +kernel)
  have f16 := hts (.fieldLink RX1 16 "NameNumbersModel" "lengths" "[I") (by decide +kernel)
  have f22 := hts (.fieldLink RX1 22 "NameNumbersModel" "sought" "[I") (by decide +kernel)
  have f30 := hts (.fieldLink RX1 30 "NameNumbersModel" "rows" "I") (by decide +kernel)
  have f33 := hts (.fieldLink RX1 33 "NameNumbersModel" "soughtLength" "I") (by decide +kernel)
  have f40 := hts (.fieldLink RX1 40 "NameNumbersModel" "used" "I") (by decide +kernel)
  have hP : va_P D vwCl (md_W cI m0 ms mt ml md mk wr sg ta le dr so us rc n sn) s.heap := hP
  have hrc := hM.2.2.2.2.2
  have hus := hM.2.2.2.2.1
  refine lv_aload_n hx hb dX1_get_0 rfl (lv_at hl 0 rfl) ?_
  refine vp_callSi (W.runV (As := []) (rest := []) ⟨hx, hb, hml, hown, hts⟩ (km_find l D hty m0 ms mt ml md mk wr sg ta le dr so us rc n sn S hM hsn) (cwV 0 hts gX1_get_X1_find rfl rfl rfl (by decide +kernel) ⟨Nat.le_of_ble_eq_true rfl, Nat.le_of_ble_eq_true rfl⟩) (pu_preV hK hP 0 rfl rfl) rfl rfl hl.1 rfl (lv_room (Nat.le_of_ble_eq_true rfl)) dX1_get_1 ⟨Nat.zero_le _, Nat.zero_le _⟩) (fun r1 er1 => ?_)
  rcases hF : (sp_fd (sp_sl so 0 sn) (cn_rows sg S 1 rc) 1) with _ | kf
  · rw [hF] at er1
    have er1 : r1 = nI 0 := er1
    subst er1
    refine lv_istore_n (lv' := [(1, .int (nI 0)), (0, .ref m0)]) hx hb dX1_get_4 rfl hl (by decide) rfl (fun ls hl => ?_)
    refine lv_iload_n hx hb dX1_get_5 rfl (lv_at hl 0 rfl) ?_
    refine lv_if_le (tgt := 11) hx hb dX1_get_6 (by decide) (fun c_6 => ?_) (fun c_6 => absurd c_6 (not_not_intro (by decide)))
    refine lv_aload_n hx hb dX1_get_11 rfl (lv_at hl 1 rfl) ?_
    refine va_get (D := D) (ci := 1) (v := .int (nI rc)) (C := RX1) (T := TX1) (N := 9) hx hb hts hin1 hown hK hP 0 rfl rfl 4 (by decide) f30 (fun _ h9 => h9) rfl dX1_get_12 ?_
    refine lv_sipush (v := nI 3000) hx hb dX1_get_15 (by decide) ?_
    refine rn_icmp_eq (tgt := 36) hx hb (by omega) (by omega) dX1_get_18 (by decide) (fun c_18 => ?_) (fun c_18 => ?_)
    · refine lv_iconst (v := (-1)) hx hb dX1_get_36 (by decide) ?_
      exact mu_iret hx hb hr hlocks hP hK hD hS (⟨sg, ta, le, us, rc, S, rfl, hM, md_nb_full hM hF (sp_len _ _ _) (by first | exact Or.inl c_18 | exact Or.inr c_33)⟩) dX1_get_37
    · refine lv_aload_n hx hb dX1_get_21 rfl (lv_at hl 1 rfl) ?_
      refine va_get (D := D) (ci := 1) (v := .int (nI us)) (C := RX1) (T := TX1) (N := 9) hx hb hts hin1 hown hK hP 0 rfl rfl 1 (by decide) f40 (fun _ h9 => h9) rfl dX1_get_22 ?_
      refine lv_aload_n hx hb dX1_get_25 rfl (lv_at hl 1 rfl) ?_
      refine va_get (D := D) (ci := 1) (v := .int (nI sn)) (C := RX1) (T := TX1) (N := 9) hx hb hts hin1 hown hK hP 0 rfl rfl 8 (by decide) f33 (fun _ h9 => h9) rfl dX1_get_26 ?_
      refine rn_iadd hx hb dX1_get_29 ?_
      refine lv_sipush (v := nI 20000) hx hb dX1_get_30 (by decide) ?_
      refine rn_icmp_le (tgt := 38) hx hb (by omega) (by omega) dX1_get_33 (by decide) (fun c_33 => ?_) (fun c_33 => ?_)
      · refine lv_aload_n hx hb dX1_get_38 rfl (lv_at hl 1 rfl) ?_
        refine lv_aload_n hx hb dX1_get_39 rfl (lv_at hl 1 rfl) ?_
        refine va_get (D := D) (ci := 1) (v := .int (nI rc)) (C := RX1) (T := TX1) (N := 9) hx hb hts hin1 hown hK hP 0 rfl rfl 4 (by decide) f30 (fun _ h9 => h9) rfl dX1_get_40 ?_
        refine lv_iconst (v := nI 1) hx hb dX1_get_43 (by decide) ?_
        refine rn_iadd hx hb dX1_get_44 ?_
        refine va_put (D := D) (ci := 1) (v := .int (nI (rc + 1))) (ty := .int) (C := RX1) (T := TX1) (N := 9) hx hb hts hin1 tyX1 tyX1_ok nmX1 hown hK hP hD hS 0 rfl rfl 4 (by decide) f30 (fun _ h9 => h9) rfl (by decide +kernel) rfl rfl (Nat.le_of_ble_eq_true rfl) dX1_get_45 (fun H locs hP hD hS => ?_)
        have hP : va_P D vwCl ((m0, .inr (1, [.ref ms, .int (nI us), .ref mt, .ref ml, .int (nI (rc + 1)), .ref md, .int (nI n), .ref mk, .int (nI sn)])) :: (ms, .inl (cI, 20000, .inl sg)) :: (mt, .inl (cI, 3001, .inl ta)) :: (ml, .inl (cI, 3001, .inl le)) :: (md, .inl (cI, 2000, .inl dr)) :: (mk, .inl (cI, 20000, .inl so)) :: wr) H := hP
        have hD : va_D A ((m0, .inr (1, [.ref ms, .int (nI us), .ref mt, .ref ml, .int (nI (rc + 1)), .ref md, .int (nI n), .ref mk, .int (nI sn)])) :: (ms, .inl (cI, 20000, .inl sg)) :: (mt, .inl (cI, 3001, .inl ta)) :: (ml, .inl (cI, 3001, .inl le)) :: (md, .inl (cI, 2000, .inl dr)) :: (mk, .inl (cI, 20000, .inl so)) :: wr) := hD
        refine lv_aload_n hx hb dX1_get_48 rfl (lv_at hl 1 rfl) ?_
        refine va_get (D := D) (ci := 1) (v := .ref mt) (C := RX1) (T := TX1) (N := 9) hx hb hts hin1 hown hK hP 0 rfl rfl 2 (by decide) f13 (fun _ h9 => h9) rfl dX1_get_49 ?_
        refine lv_aload_n hx hb dX1_get_52 rfl (lv_at hl 1 rfl) ?_
        refine va_get (D := D) (ci := 1) (v := .int (nI (rc + 1))) (C := RX1) (T := TX1) (N := 9) hx hb hts hin1 hown hK hP 0 rfl rfl 4 (by decide) f30 (fun _ h9 => h9) rfl dX1_get_53 ?_
        refine lv_aload_n hx hb dX1_get_56 rfl (lv_at hl 1 rfl) ?_
        refine va_get (D := D) (ci := 1) (v := .int (nI us)) (C := RX1) (T := TX1) (N := 9) hx hb hts hin1 hown hK hP 0 rfl rfl 1 (by decide) f40 (fun _ h9 => h9) rfl dX1_get_57 ?_
        refine rn_ast hx hb hK hP hD hS 2 0 rfl hty (by omega) (by decide) dX1_get_60 (fun H locs hP hD hS => ?_)
        have hP : va_P D vwCl ((m0, .inr (1, [.ref ms, .int (nI us), .ref mt, .ref ml, .int (nI (rc + 1)), .ref md, .int (nI n), .ref mk, .int (nI sn)])) :: (ms, .inl (cI, 20000, .inl sg)) :: (mt, .inl (cI, 3001, .inl (upd ta (rc + 1) (nI us)))) :: (ml, .inl (cI, 3001, .inl le)) :: (md, .inl (cI, 2000, .inl dr)) :: (mk, .inl (cI, 20000, .inl so)) :: wr) H := hP
        have hD : va_D A ((m0, .inr (1, [.ref ms, .int (nI us), .ref mt, .ref ml, .int (nI (rc + 1)), .ref md, .int (nI n), .ref mk, .int (nI sn)])) :: (ms, .inl (cI, 20000, .inl sg)) :: (mt, .inl (cI, 3001, .inl (upd ta (rc + 1) (nI us)))) :: (ml, .inl (cI, 3001, .inl le)) :: (md, .inl (cI, 2000, .inl dr)) :: (mk, .inl (cI, 20000, .inl so)) :: wr) := hD
        refine lv_aload_n hx hb dX1_get_61 rfl (lv_at hl 1 rfl) ?_
        refine va_get (D := D) (ci := 1) (v := .ref ml) (C := RX1) (T := TX1) (N := 9) hx hb hts hin1 hown hK hP 0 rfl rfl 3 (by decide) f16 (fun _ h9 => h9) rfl dX1_get_62 ?_
        refine lv_aload_n hx hb dX1_get_65 rfl (lv_at hl 1 rfl) ?_
        refine va_get (D := D) (ci := 1) (v := .int (nI (rc + 1))) (C := RX1) (T := TX1) (N := 9) hx hb hts hin1 hown hK hP 0 rfl rfl 4 (by decide) f30 (fun _ h9 => h9) rfl dX1_get_66 ?_
        refine lv_aload_n hx hb dX1_get_69 rfl (lv_at hl 1 rfl) ?_
        refine va_get (D := D) (ci := 1) (v := .int (nI sn)) (C := RX1) (T := TX1) (N := 9) hx hb hts hin1 hown hK hP 0 rfl rfl 8 (by decide) f33 (fun _ h9 => h9) rfl dX1_get_70 ?_
        refine rn_ast hx hb hK hP hD hS 3 0 rfl hty (by omega) (by decide) dX1_get_73 (fun H locs hP hD hS => ?_)
        have hP : va_P D vwCl ((m0, .inr (1, [.ref ms, .int (nI us), .ref mt, .ref ml, .int (nI (rc + 1)), .ref md, .int (nI n), .ref mk, .int (nI sn)])) :: (ms, .inl (cI, 20000, .inl sg)) :: (mt, .inl (cI, 3001, .inl (upd ta (rc + 1) (nI us)))) :: (ml, .inl (cI, 3001, .inl (upd le (rc + 1) (nI sn)))) :: (md, .inl (cI, 2000, .inl dr)) :: (mk, .inl (cI, 20000, .inl so)) :: wr) H := hP
        have hD : va_D A ((m0, .inr (1, [.ref ms, .int (nI us), .ref mt, .ref ml, .int (nI (rc + 1)), .ref md, .int (nI n), .ref mk, .int (nI sn)])) :: (ms, .inl (cI, 20000, .inl sg)) :: (mt, .inl (cI, 3001, .inl (upd ta (rc + 1) (nI us)))) :: (ml, .inl (cI, 3001, .inl (upd le (rc + 1) (nI sn)))) :: (md, .inl (cI, 2000, .inl dr)) :: (mk, .inl (cI, 20000, .inl so)) :: wr) := hD
        refine lv_iconst (v := nI 0) hx hb dX1_get_74 (by decide) ?_
        refine lv_istore_n (lv' := [(2, .int (nI 0)), (1, .int (nI 0)), (0, .ref m0)]) hx hb dX1_get_75 rfl hl (by decide) rfl (fun ls hl => ?_)
        have loop : ∀ (j : Nat) (i : Nat) (f : Nat → Int32) (H : Heap) (locs : List Loc) (ls : Array Slot), sn + 1 ≤ i + j → i ≤ sn → (∀ z, z < us → f z = sg z) → (∀ z, z < i → f (us + z) = so z) → va_P D vwCl (md_W cI m0 ms mt ml md mk wr f (upd ta (rc + 1) (nI us)) (upd le (rc + 1) (nI sn)) dr so (us + i) (rc + 1) n sn) H → va_D A (md_W cI m0 ms mt ml md mk wr f (upd ta (rc + 1) (nI us)) (upd le (rc + 1) (nI sn)) dr so (us + i) (rc + 1) n sn) → va_S A s.heap H locs → lv_has ls 3 [(0, .ref m0), (2, .int (nI i))] → W p l e { frames := 1, cells := 0, slots := 0, locals := 24 } s m [.ref m0].toArray below meth c H locs 0 0 (MQ below (va_Qi (fun r w => ∃ (sg' ta' le' : Nat → Int32) (us' rc' : Nat) (S' : Nat → Nat), w = md_W cI m0 ms mt ml md mk wr sg' ta' le' dr so us' rc' n sn ∧ md_S ta' le' us' rc' S' ∧ sp_numberOf (cn_rows sg S 1 rc) (sp_sl so 0 sn) = (cn_rows sg' S' 1 rc', r)) (mu_B D vwCl tys A) A) [.ref m0].toArray s 0 0 A) (F0 m 76 ls []) := by
          intro j
          induction j with
          | zero => intro i f H locs ls hj hi hinv1 hinv2 hP hD hS hl; exfalso; omega
          | succ j ih =>
            intro i f H locs ls hj hi hinv1 hinv2 hP hD hS hl
            refine lv_iload_n hx hb dX1_get_76 rfl (lv_at hl 1 rfl) ?_
            refine lv_aload_n hx hb dX1_get_77 rfl (lv_at hl 0 rfl) ?_
            refine va_get (D := D) (ci := 1) (v := .int (nI sn)) (C := RX1) (T := TX1) (N := 9) hx hb hts hin1 hown hK hP 0 rfl rfl 8 (by decide) f33 (fun _ h9 => h9) rfl dX1_get_78 ?_
            refine rn_icmp_ge (tgt := 115) hx hb (by omega) (by omega) dX1_get_81 (by decide) (fun c_81 => ?_) (fun c_81 => ?_)
            · obtain rfl : i = sn := by omega
              refine lv_aload_n hx hb dX1_get_115 rfl (lv_at hl 0 rfl) ?_
              refine va_get (D := D) (ci := 1) (v := .int (nI (rc + 1))) (C := RX1) (T := TX1) (N := 9) hx hb hts hin1 hown hK hP 0 rfl rfl 4 (by decide) f30 (fun _ h9 => h9) rfl dX1_get_116 ?_
              exact mu_iret hx hb hr hlocks hP hK hD hS (⟨_, _, _, _, _, _, rfl, md_S_add hM c_18 c_33, md_nb_new hM hF c_18 c_33 hinv1 hinv2⟩) dX1_get_119
            · refine lv_aload_n hx hb dX1_get_84 rfl (lv_at hl 0 rfl) ?_
              refine va_get (D := D) (ci := 1) (v := .ref ms) (C := RX1) (T := TX1) (N := 9) hx hb hts hin1 hown hK hP 0 rfl rfl 0 (by decide) f7 (fun _ h9 => h9) rfl dX1_get_85 ?_
              refine lv_aload_n hx hb dX1_get_88 rfl (lv_at hl 0 rfl) ?_
              refine va_get (D := D) (ci := 1) (v := .int (nI (us + i))) (C := RX1) (T := TX1) (N := 9) hx hb hts hin1 hown hK hP 0 rfl rfl 1 (by decide) f40 (fun _ h9 => h9) rfl dX1_get_89 ?_
              refine lv_aload_n hx hb dX1_get_92 rfl (lv_at hl 0 rfl) ?_
              refine va_get (D := D) (ci := 1) (v := .ref mk) (C := RX1) (T := TX1) (N := 9) hx hb hts hin1 hown hK hP 0 rfl rfl 7 (by decide) f22 (fun _ h9 => h9) rfl dX1_get_93 ?_
              refine lv_iload_n hx hb dX1_get_96 rfl (lv_at hl 1 rfl) ?_
              refine rn_ald (v := so i) hx hb hK hP 5 0 rfl hty (by omega) (by decide) (rfl) dX1_get_97 ?_
              refine rn_ast hx hb hK hP hD hS 1 0 rfl hty (by omega) (by decide) dX1_get_98 (fun H locs hP hD hS => ?_)
              have hP : va_P D vwCl ((m0, .inr (1, [.ref ms, .int (nI (us + i)), .ref mt, .ref ml, .int (nI (rc + 1)), .ref md, .int (nI n), .ref mk, .int (nI sn)])) :: (ms, .inl (cI, 20000, .inl (upd f (us + i) (so i)))) :: (mt, .inl (cI, 3001, .inl (upd ta (rc + 1) (nI us)))) :: (ml, .inl (cI, 3001, .inl (upd le (rc + 1) (nI sn)))) :: (md, .inl (cI, 2000, .inl dr)) :: (mk, .inl (cI, 20000, .inl so)) :: wr) H := hP
              have hD : va_D A ((m0, .inr (1, [.ref ms, .int (nI (us + i)), .ref mt, .ref ml, .int (nI (rc + 1)), .ref md, .int (nI n), .ref mk, .int (nI sn)])) :: (ms, .inl (cI, 20000, .inl (upd f (us + i) (so i)))) :: (mt, .inl (cI, 3001, .inl (upd ta (rc + 1) (nI us)))) :: (ml, .inl (cI, 3001, .inl (upd le (rc + 1) (nI sn)))) :: (md, .inl (cI, 2000, .inl dr)) :: (mk, .inl (cI, 20000, .inl so)) :: wr) := hD
              refine lv_aload_n hx hb dX1_get_99 rfl (lv_at hl 0 rfl) ?_
              refine lv_aload_n hx hb dX1_get_100 rfl (lv_at hl 0 rfl) ?_
              refine va_get (D := D) (ci := 1) (v := .int (nI (us + i))) (C := RX1) (T := TX1) (N := 9) hx hb hts hin1 hown hK hP 0 rfl rfl 1 (by decide) f40 (fun _ h9 => h9) rfl dX1_get_101 ?_
              refine lv_iconst (v := nI 1) hx hb dX1_get_104 (by decide) ?_
              refine rn_iadd hx hb dX1_get_105 ?_
              refine va_put (D := D) (ci := 1) (v := .int (nI (us + i + 1))) (ty := .int) (C := RX1) (T := TX1) (N := 9) hx hb hts hin1 tyX1 tyX1_ok nmX1 hown hK hP hD hS 0 rfl rfl 1 (by decide) f40 (fun _ h9 => h9) rfl (by decide +kernel) rfl rfl (Nat.le_of_ble_eq_true rfl) dX1_get_106 (fun H locs hP hD hS => ?_)
              have hP : va_P D vwCl ((m0, .inr (1, [.ref ms, .int (nI (us + i + 1)), .ref mt, .ref ml, .int (nI (rc + 1)), .ref md, .int (nI n), .ref mk, .int (nI sn)])) :: (ms, .inl (cI, 20000, .inl (upd f (us + i) (so i)))) :: (mt, .inl (cI, 3001, .inl (upd ta (rc + 1) (nI us)))) :: (ml, .inl (cI, 3001, .inl (upd le (rc + 1) (nI sn)))) :: (md, .inl (cI, 2000, .inl dr)) :: (mk, .inl (cI, 20000, .inl so)) :: wr) H := hP
              have hD : va_D A ((m0, .inr (1, [.ref ms, .int (nI (us + i + 1)), .ref mt, .ref ml, .int (nI (rc + 1)), .ref md, .int (nI n), .ref mk, .int (nI sn)])) :: (ms, .inl (cI, 20000, .inl (upd f (us + i) (so i)))) :: (mt, .inl (cI, 3001, .inl (upd ta (rc + 1) (nI us)))) :: (ml, .inl (cI, 3001, .inl (upd le (rc + 1) (nI sn)))) :: (md, .inl (cI, 2000, .inl dr)) :: (mk, .inl (cI, 20000, .inl so)) :: wr) := hD
              refine rn_iinc (n := 1) (lv' := [(2, .int (nI (i + 1))), (0, .ref m0)]) hx hb dX1_get_109 hl (k := 1) rfl (by decide) rfl (fun ls hl => ?_)
              refine lv_goto (tgt := 76) hx hb dX1_get_112 (by decide) ?_
              exact ih (i + 1) (upd f (us + i) (so i)) H locs ls (by omega) (by omega) (fun z hz => by rw [pk_un (by omega)]; exact hinv1 z hz) (fun z hz => (Nat.lt_or_ge z i).elim (fun h => by rw [pk_un (by omega)]; exact hinv2 z h) (fun h => by rw [show z = i by omega, pk_us])) hP hD hS (lv_sub hl [1, 0] rfl)
        exact loop (sn + 1) 0 sg H locs ls (by omega) (Nat.zero_le _) (fun _ _ => rfl) (fun z hz => absurd hz (Nat.not_lt_zero z)) hP hD hS (lv_sub hl [2, 0] rfl)
      · refine lv_iconst (v := (-1)) hx hb dX1_get_36 (by decide) ?_
        exact mu_iret hx hb hr hlocks hP hK hD hS (⟨sg, ta, le, us, rc, S, rfl, hM, md_nb_full hM hF (sp_len _ _ _) (by first | exact Or.inl c_18 | exact Or.inr c_33)⟩) dX1_get_37
  · rw [hF] at er1
    have er1 : r1 = nI kf := er1
    subst er1
    have hf1 := sp_fd_ge _ _ _ hF
    have hf2 := sp_fd_lt _ _ _ hF
    rw [cn_rows_len] at hf2
    refine lv_istore_n (lv' := [(1, .int (nI kf)), (0, .ref m0)]) hx hb dX1_get_4 rfl hl (by decide) rfl (fun ls hl => ?_)
    refine lv_iload_n hx hb dX1_get_5 rfl (lv_at hl 0 rfl) ?_
    refine lv_if_le (tgt := 11) hx hb dX1_get_6 (by decide) (fun c_6 => absurd c_6 (nI_nle (by omega) (by omega))) (fun c_6 => ?_)
    refine lv_iload_n hx hb dX1_get_9 rfl (lv_at hl 0 rfl) ?_
    exact mu_iret hx hb hr hlocks hP hK hD hS (⟨sg, ta, le, us, rc, S, rfl, hM, md_nb_old hF⟩) dX1_get_10
set_option maxHeartbeats 4000000 in
set_option maxRecDepth 100000 in
/-- number -/
theorem km_number (l : Launch) (D : va_G) {tys : List (ClassId × FieldType)} {cI : ClassId} (hty : tys[0]? = some (cI, .int)) (m0 ms mt ml md mk : Nat) (wr : va_W) (sg ta le dr so : Nat → Int32) (us rc n sn : Nat) (A : Nat → Prop) (S : Nat → Nat) (hM : md_S ta le us rc S) (hn : n ≤ 2000) (hsn : sn ≤ 20000) : Met l yX1_number wsX1_number ({ frames := 2, cells := 0, slots := 0, locals := 48 }) (mu_Pc D vwCl (md_W cI m0 ms mt ml md mk wr sg ta le dr so us rc n sn) tys A [.ref m0]) (va_Qi (fun r w => md_Ok cI (md_W cI m0 ms mt ml md mk wr) (if r = -1 then (sp_sl dr 0 n) else []) (sp_numberOf (cn_rows sg S 1 rc) (sp_sl dr 0 n)).1 w ∧ r = (sp_numberOf (cn_rows sg S 1 rc) (sp_sl dr 0 n)).2) (mu_B D vwCl tys A) A) 0 0 A := by
  refine mu_of (cc := cX1_number) (maxL := 2) (ret := some .int) (own := RX1) (by decide) rfl rfl (Nat.le_of_ble_eq_true rfl) ?_
  intro p e s m below meth c hx hb hr hts hown hlocks hml hP hK hD hS ls hl
  have hl : lv_has ls 2 [(0, .ref m0)] := hl
  have hin1 : ∀ w ∈ u_ws RX1 TX1 9, w ∈ wsX1_number := by decide +kernel
  have f26 := hts (.fieldLink RX1 26 "NameNumbersModel" "written" "I") (by decide +kernel)
  have hP : va_P D vwCl (md_W cI m0 ms mt ml md mk wr sg ta le dr so us rc n sn) s.heap := hP
  refine lv_aload_n hx hb dX1_number_0 rfl (lv_at hl 0 rfl) ?_
  refine mk_callv (va_runV (As := []) (rest := []) ⟨hx, hb, hml, hown, hts⟩ (km_seekDraft l D hty m0 ms mt ml md mk wr sg ta le dr so us rc n sn A hn) (cwV 0 hts gX1_number_X1_seekDraft rfl rfl rfl (by decide +kernel) ⟨Nat.le_of_ble_eq_true rfl, Nat.le_of_ble_eq_true rfl⟩) (mu_preV hK hP hD 0 rfl rfl) rfl rfl hl.1 rfl (lv_room (Nat.le_of_ble_eq_true rfl)) dX1_number_1 ⟨Nat.zero_le _, Nat.zero_le _⟩) hS (fun w_1 H locs er1 hP hD hS => ?_)
  obtain ⟨so', rfl, hso⟩ := er1
  refine lv_aload_n hx hb dX1_number_4 rfl (lv_at hl 0 rfl) ?_
  refine mu_calli (va_runV (As := []) (rest := []) ⟨hx, hb, hml, hown, hts⟩ (km_get l D hty m0 ms mt ml md mk wr sg ta le dr so' us rc n n A S hM hn (by omega)) (cwV 0 hts gX1_number_X1_get rfl rfl rfl (by decide +kernel) ⟨Nat.le_of_ble_eq_true rfl, Nat.le_of_ble_eq_true rfl⟩) (mu_preV hK hP hD 0 rfl rfl) rfl rfl hl.1 rfl (lv_room (Nat.le_of_ble_eq_true rfl)) dX1_number_5 ⟨Nat.zero_le _, Nat.zero_le _⟩) hS (fun r5 w_5 H locs er5 hP hD hS => ?_)
  obtain ⟨sg', ta', le', us', rc', S', rfl, hM', hsp⟩ := er5
  rw [hso] at hsp
  refine lv_istore_n (lv' := [(1, .int r5), (0, .ref m0)]) hx hb dX1_number_8 rfl hl (by decide) rfl (fun ls hl => ?_)
  refine lv_aload_n hx hb dX1_number_9 rfl (lv_at hl 1 rfl) ?_
  refine lv_iload_n hx hb dX1_number_10 rfl (lv_at hl 0 rfl) ?_
  refine lv_if_ge (tgt := 21) hx hb dX1_number_11 (by decide) (fun c_11 => ?_) (fun c_11 => ?_)
  · refine lv_iconst (v := nI 0) hx hb dX1_number_21 (by decide) ?_
    refine va_put (D := D) (ci := 1) (v := .int (nI 0)) (ty := .int) (C := RX1) (T := TX1) (N := 9) hx hb hts hin1 tyX1 tyX1_ok nmX1 hown hK hP hD hS 0 rfl rfl 6 (by decide) f26 (fun _ h9 => h9) rfl (by decide +kernel) rfl rfl (Nat.le_of_ble_eq_true rfl) dX1_number_22 (fun H locs hP hD hS => ?_)
    have hP : va_P D vwCl ((m0, .inr (1, [.ref ms, .int (nI us'), .ref mt, .ref ml, .int (nI rc'), .ref md, .int (nI 0), .ref mk, .int (nI n)])) :: (ms, .inl (cI, 20000, .inl sg')) :: (mt, .inl (cI, 3001, .inl ta')) :: (ml, .inl (cI, 3001, .inl le')) :: (md, .inl (cI, 2000, .inl dr)) :: (mk, .inl (cI, 20000, .inl so')) :: wr) H := hP
    have hD : va_D A ((m0, .inr (1, [.ref ms, .int (nI us'), .ref mt, .ref ml, .int (nI rc'), .ref md, .int (nI 0), .ref mk, .int (nI n)])) :: (ms, .inl (cI, 20000, .inl sg')) :: (mt, .inl (cI, 3001, .inl ta')) :: (ml, .inl (cI, 3001, .inl le')) :: (md, .inl (cI, 2000, .inl dr)) :: (mk, .inl (cI, 20000, .inl so')) :: wr) := hD
    refine lv_iload_n hx hb dX1_number_25 rfl (lv_at hl 0 rfl) ?_
    exact mu_iret hx hb hr hlocks hP hK hD hS (by rw [hsp]; first | exact ⟨⟨sg', ta', le', dr, so', us', rc', 0, n, S', rfl, by omega, by omega, hM', if_neg (md_ge c_11), rfl⟩, rfl⟩ | exact ⟨⟨sg', ta', le', dr, so', us', rc', n, n, S', rfl, hn, by omega, hM', if_pos (md_neg (by rw [cn_rows_len]; exact hM.2.2.2.2.2) hsp c_11), rfl⟩, rfl⟩) dX1_number_26
  · refine lv_aload_n hx hb dX1_number_14 rfl (lv_at hl 1 rfl) ?_
    refine va_get (D := D) (ci := 1) (v := .int (nI n)) (C := RX1) (T := TX1) (N := 9) hx hb hts hin1 hown hK hP 0 rfl rfl 6 (by decide) f26 (fun _ h9 => h9) rfl dX1_number_15 ?_
    refine lv_goto (tgt := 22) hx hb dX1_number_18 (by decide) ?_
    refine va_put (D := D) (ci := 1) (v := .int (nI n)) (ty := .int) (C := RX1) (T := TX1) (N := 9) hx hb hts hin1 tyX1 tyX1_ok nmX1 hown hK hP hD hS 0 rfl rfl 6 (by decide) f26 (fun _ h9 => h9) rfl (by decide +kernel) rfl rfl (Nat.le_of_ble_eq_true rfl) dX1_number_22 (fun H locs hP hD hS => ?_)
    have hP : va_P D vwCl ((m0, .inr (1, [.ref ms, .int (nI us'), .ref mt, .ref ml, .int (nI rc'), .ref md, .int (nI n), .ref mk, .int (nI n)])) :: (ms, .inl (cI, 20000, .inl sg')) :: (mt, .inl (cI, 3001, .inl ta')) :: (ml, .inl (cI, 3001, .inl le')) :: (md, .inl (cI, 2000, .inl dr)) :: (mk, .inl (cI, 20000, .inl so')) :: wr) H := hP
    have hD : va_D A ((m0, .inr (1, [.ref ms, .int (nI us'), .ref mt, .ref ml, .int (nI rc'), .ref md, .int (nI n), .ref mk, .int (nI n)])) :: (ms, .inl (cI, 20000, .inl sg')) :: (mt, .inl (cI, 3001, .inl ta')) :: (ml, .inl (cI, 3001, .inl le')) :: (md, .inl (cI, 2000, .inl dr)) :: (mk, .inl (cI, 20000, .inl so')) :: wr) := hD
    refine lv_iload_n hx hb dX1_number_25 rfl (lv_at hl 0 rfl) ?_
    exact mu_iret hx hb hr hlocks hP hK hD hS (by rw [hsp]; first | exact ⟨⟨sg', ta', le', dr, so', us', rc', 0, n, S', rfl, by omega, by omega, hM', if_neg (md_ge c_11), rfl⟩, rfl⟩ | exact ⟨⟨sg', ta', le', dr, so', us', rc', n, n, S', rfl, hn, by omega, hM', if_pos (md_neg (by rw [cn_rows_len]; exact hM.2.2.2.2.2) hsp c_11), rfl⟩, rfl⟩) dX1_number_26
set_option maxHeartbeats 4000000 in
set_option maxRecDepth 100000 in
/-- isKnown -/
theorem km_isKnown (l : Launch) (D : va_G) {tys : List (ClassId × FieldType)} {cI : ClassId} (hty : tys[0]? = some (cI, .int)) (m0 ms mt ml md mk : Nat) (wr : va_W) (sg ta le dr so : Nat → Int32) (us rc n sn : Nat) (A : Nat → Prop) (S : Nat → Nat) (hM : md_S ta le us rc S) (hn : n ≤ 2000) (hsn : sn ≤ 20000) : Met l yX1_isKnown wsX1_isKnown ({ frames := 1, cells := 0, slots := 0, locals := 24 }) (mu_Pc D vwCl (md_W cI m0 ms mt ml md mk wr sg ta le dr so us rc n sn) tys A [.ref m0]) (va_Qi (fun r w => md_Ok cI (md_W cI m0 ms mt ml md mk wr) (sp_sl dr 0 n) (cn_rows sg S 1 rc) w ∧ r = sp_known (cn_rows sg S 1 rc) (sp_sl dr 0 n)) (mu_B D vwCl tys A) A) 0 0 A := by
  refine mu_of (cc := cX1_isKnown) (maxL := 1) (ret := some .boolean) (own := RX1) (by decide) rfl rfl (Nat.le_of_ble_eq_true rfl) ?_
  intro p e s m below meth c hx hb hr hts hown hlocks hml hP hK hD hS ls hl
  have hl : lv_has ls 1 [(0, .ref m0)] := hl
  have hP : va_P D vwCl (md_W cI m0 ms mt ml md mk wr sg ta le dr so us rc n sn) s.heap := hP
  have hrc := hM.2.2.2.2.2
  refine lv_aload_n hx hb dX1_isKnown_0 rfl (lv_at hl 0 rfl) ?_
  refine mk_callv (va_runV (As := []) (rest := []) ⟨hx, hb, hml, hown, hts⟩ (km_seekDraft l D hty m0 ms mt ml md mk wr sg ta le dr so us rc n sn A hn) (cwV 0 hts gX1_isKnown_X1_seekDraft rfl rfl rfl (by decide +kernel) ⟨Nat.le_of_ble_eq_true rfl, Nat.le_of_ble_eq_true rfl⟩) (mu_preV hK hP hD 0 rfl rfl) rfl rfl hl.1 rfl (lv_room (Nat.le_of_ble_eq_true rfl)) dX1_isKnown_1 ⟨Nat.zero_le _, Nat.zero_le _⟩) hS (fun w_1 H locs er1 hP hD hS => ?_)
  obtain ⟨so', rfl, hso⟩ := er1
  refine lv_aload_n hx hb dX1_isKnown_4 rfl (lv_at hl 0 rfl) ?_
  refine vp_callSi (W.runV (As := []) (rest := []) ⟨hx, hb, hml, hown, hts⟩ (km_find l D hty m0 ms mt ml md mk wr sg ta le dr so' us rc n n S hM (by omega)) (cwV 0 hts gX1_isKnown_X1_find rfl rfl rfl (by decide +kernel) ⟨Nat.le_of_ble_eq_true rfl, Nat.le_of_ble_eq_true rfl⟩) (pu_preV hK hP 0 rfl rfl) rfl rfl hl.1 rfl (lv_room (Nat.le_of_ble_eq_true rfl)) dX1_isKnown_5 ⟨Nat.zero_le _, Nat.zero_le _⟩) (fun r5 er5 => ?_)
  rcases hF : (sp_fd (sp_sl so' 0 n) (cn_rows sg S 1 rc) 1) with _ | kf
  · rw [hF] at er5
    have er5 : r5 = nI 0 := er5
    subst er5
    refine lv_if_le (tgt := 15) hx hb dX1_isKnown_8 (by decide) (fun c_8 => ?_) (fun c_8 => absurd c_8 (not_not_intro (by decide)))
    refine lv_iconst (v := nI 0) hx hb dX1_isKnown_15 (by decide) ?_
    exact mu_zret hx hb hr hlocks (by decide) hP hK hD hS (⟨⟨sg, ta, le, dr, so', us, rc, n, n, S, rfl, hn, by omega, hM, rfl, rfl⟩, by rw [sp_known, ← hso, hF]; rfl⟩) dX1_isKnown_16
  · rw [hF] at er5
    have er5 : r5 = nI kf := er5
    subst er5
    have hf1 := sp_fd_ge _ _ _ hF
    have hf2 := sp_fd_lt _ _ _ hF
    rw [cn_rows_len] at hf2
    refine lv_if_le (tgt := 15) hx hb dX1_isKnown_8 (by decide) (fun c_8 => absurd c_8 (nI_nle (by omega) (by omega))) (fun c_8 => ?_)
    refine lv_iconst (v := nI 1) hx hb dX1_isKnown_11 (by decide) ?_
    refine lv_goto (tgt := 16) hx hb dX1_isKnown_12 (by decide) ?_
    exact mu_zret hx hb hr hlocks (by decide) hP hK hD hS (⟨⟨sg, ta, le, dr, so', us, rc, n, n, S, rfl, hn, by omega, hM, rfl, rfl⟩, by rw [sp_known, ← hso, hF]; rfl⟩) dX1_isKnown_16
end
section
set_option maxHeartbeats 4000000 in
set_option maxRecDepth 100000 in
/-- take -/
theorem km_take (l : Launch) (D : va_G) {tys : List (ClassId × FieldType)} {cI : ClassId} (hty : tys[0]? = some (cI, .int)) (m0 ms mt ml md mk : Nat) (wr : va_W) (sg ta le dr so : Nat → Int32) (us rc n sn : Nat) (A : Nat → Prop) (S : Nat → Nat) (hM : md_S ta le us rc S) (hn : n ≤ 2000) (hsn : sn ≤ 20000) (k : Int32) : Met l yX1_take wsX1_take ({ frames := 1, cells := 0, slots := 0, locals := 24 }) (mu_Pc D vwCl (md_W cI m0 ms mt ml md mk wr sg ta le dr so us rc n sn) tys A [.ref m0, .int k]) (va_Qi (fun r w => md_Ok cI (md_W cI m0 ms mt ml md mk wr) (sp_take_ (cn_rows sg S 1 rc) (sp_sl dr 0 n) k).1 (cn_rows sg S 1 rc) w ∧ r = (sp_take_ (cn_rows sg S 1 rc) (sp_sl dr 0 n) k).2) (mu_B D vwCl tys A) A) 0 0 A := by
  refine mu_of (cc := cX1_take) (maxL := 3) (ret := some .int) (own := RX1) (by decide) rfl rfl (Nat.le_of_ble_eq_true rfl) ?_
  intro p e s m below meth c hx hb hr hts hown hlocks hml hP hK hD hS ls hl
  have hl : lv_has ls 3 [(0, .ref m0), (1, .int k)] := hl
  have hin1 : ∀ w ∈ u_ws RX1 TX1 9, w ∈ wsX1_take := by decide +kernel
  have f7 := hts (.fieldLink RX1 7 "NameNumbersModel" "signs" "[I") (by decide +kernel)
  have f13 := hts (.fieldLink RX1 13 "NameNumbersModel" "starts" "[I") (by decide +kernel)
  have f16 := hts (.fieldLink RX1 16 "NameNumbersModel" "lengths" "[I") (by decide +kernel)
  have f19 := hts (.fieldLink RX1 19 "NameNumbersModel" "draft" "[I") (by decide +kernel)
  have f26 := hts (.fieldLink RX1 26 "NameNumbersModel" "written" "I") (by decide +kernel)
  have hP : va_P D vwCl (md_W cI m0 ms mt ml md mk wr sg ta le dr so us rc n sn) s.heap := hP
  have hrc := hM.2.2.2.2.2
  refine lv_aload_n hx hb dX1_take_0 rfl (lv_at hl 0 rfl) ?_
  refine lv_iload_n hx hb dX1_take_1 rfl (lv_at hl 1 rfl) ?_
  refine vp_callSi (W.runV (As := [.int k]) (rest := []) ⟨hx, hb, hml, hown, hts⟩ (km_isRow l D hty m0 ms mt ml md mk wr sg ta le dr so us rc n sn hM.2.2.2.2.2 k) (cwV 1 hts gX1_take_X1_isRow rfl rfl rfl (by decide +kernel) ⟨Nat.le_of_ble_eq_true rfl, Nat.le_of_ble_eq_true rfl⟩) (pu_preV hK hP 0 rfl rfl) rfl rfl hl.1 rfl (lv_room (Nat.le_of_ble_eq_true rfl)) dX1_take_2 ⟨Nat.zero_le _, Nat.zero_le _⟩) (fun r2 er2 => ?_)
  rcases er2 with ⟨er2, hk_k⟩ | ⟨er2, hk_k⟩
  · subst er2
    obtain ⟨k', h1_k, h2_k, rfl⟩ := hk_k
    have hw_k := cn_row_yes (ch := sg) (md_R hM) h1_k h2_k
    refine lv_if_eq (tgt := 25) hx hb dX1_take_5 (by decide) (fun c_5 => absurd c_5 (by decide)) (fun c_5 => ?_)
    have htk := cn_top (md_R hM) (k := k' + 1) (by omega) (by omega)
    have hlk := hM.2.2.1 k' h1_k h2_k
    refine lv_aload_n hx hb dX1_take_8 rfl (lv_at hl 0 rfl) ?_
    refine va_get (D := D) (ci := 1) (v := .int (nI n)) (C := RX1) (T := TX1) (N := 9) hx hb hts hin1 hown hK hP 0 rfl rfl 6 (by decide) f26 (fun _ h9 => h9) rfl dX1_take_9 ?_
    refine lv_aload_n hx hb dX1_take_12 rfl (lv_at hl 0 rfl) ?_
    refine va_get (D := D) (ci := 1) (v := .ref ml) (C := RX1) (T := TX1) (N := 9) hx hb hts hin1 hown hK hP 0 rfl rfl 3 (by decide) f16 (fun _ h9 => h9) rfl dX1_take_13 ?_
    refine lv_iload_n hx hb dX1_take_16 rfl (lv_at hl 1 rfl) ?_
    refine rn_ald (v := nI (S (k' + 1) - S k')) hx hb hK hP 3 0 rfl hty (by have := hM.2.2.2.2.2; omega) (by decide) ((hM.2.1 k' (by omega) (by omega)).2) dX1_take_17 ?_
    refine rn_iadd hx hb dX1_take_18 ?_
    refine lv_sipush (v := nI 2000) hx hb dX1_take_19 (by decide) ?_
    refine rn_icmp_le (tgt := 27) hx hb (by omega) (by omega) dX1_take_22 (by decide) (fun c_22 => ?_) (fun c_22 => ?_)
    · refine lv_iconst (v := nI 0) hx hb dX1_take_27 (by decide) ?_
      refine lv_istore_n (lv' := [(2, .int (nI 0)), (0, .ref m0), (1, .int (nI k'))]) hx hb dX1_take_28 rfl hl (by decide) rfl (fun ls hl => ?_)
      have loop : ∀ (j : Nat) (i : Nat) (f : Nat → Int32) (H : Heap) (locs : List Loc) (ls : Array Slot), (S (k' + 1) - S k') + 1 ≤ i + j → i ≤ (S (k' + 1) - S k') → (∀ z, z < n → f z = dr z) → (∀ z, z < i → f (n + z) = sg (S k' + z)) → va_P D vwCl (md_W cI m0 ms mt ml md mk wr sg ta le f so us rc (n + i) sn) H → va_D A (md_W cI m0 ms mt ml md mk wr sg ta le f so us rc (n + i) sn) → va_S A s.heap H locs → lv_has ls 3 [(0, .ref m0), (1, .int (nI k')), (2, .int (nI i))] → W p l e { frames := 1, cells := 0, slots := 0, locals := 24 } s m [.ref m0, .int (nI k')].toArray below meth c H locs 0 0 (MQ below (va_Qi (fun r w => md_Ok cI (md_W cI m0 ms mt ml md mk wr) (sp_take_ (cn_rows sg S 1 rc) (sp_sl dr 0 n) (nI k')).1 (cn_rows sg S 1 rc) w ∧ r = (sp_take_ (cn_rows sg S 1 rc) (sp_sl dr 0 n) (nI k')).2) (mu_B D vwCl tys A) A) [.ref m0, .int (nI k')].toArray s 0 0 A) (F0 m 29 ls []) := by
        intro j
        induction j with
        | zero => intro i f H locs ls hj hi hinv1 hinv2 hP hD hS hl; exfalso; omega
        | succ j ih =>
          intro i f H locs ls hj hi hinv1 hinv2 hP hD hS hl
          refine lv_iload_n hx hb dX1_take_29 rfl (lv_at hl 2 rfl) ?_
          refine lv_aload_n hx hb dX1_take_30 rfl (lv_at hl 0 rfl) ?_
          refine va_get (D := D) (ci := 1) (v := .ref ml) (C := RX1) (T := TX1) (N := 9) hx hb hts hin1 hown hK hP 0 rfl rfl 3 (by decide) f16 (fun _ h9 => h9) rfl dX1_take_31 ?_
          refine lv_iload_n hx hb dX1_take_34 rfl (lv_at hl 1 rfl) ?_
          refine rn_ald (v := nI (S (k' + 1) - S k')) hx hb hK hP 3 0 rfl hty (by have := hM.2.2.2.2.2; omega) (by decide) ((hM.2.1 k' (by omega) (by omega)).2) dX1_take_35 ?_
          refine rn_icmp_ge (tgt := 77) hx hb (by omega) (by omega) dX1_take_36 (by decide) (fun c_36 => ?_) (fun c_36 => ?_)
          · refine lv_aload_n hx hb dX1_take_77 rfl (lv_at hl 0 rfl) ?_
            refine va_get (D := D) (ci := 1) (v := .int (nI (n + i))) (C := RX1) (T := TX1) (N := 9) hx hb hts hin1 hown hK hP 0 rfl rfl 6 (by decide) f26 (fun _ h9 => h9) rfl dX1_take_78 ?_
            exact mu_iret hx hb hr hlocks hP hK hD hS (by rw [cn_tk_some hw_k, if_neg (by rw [sp_len, cn_row, sp_len]; omega), md_tk (show S (k' + 1) - S k' = i by omega) hinv1 hinv2, sp_len, cn_row, sp_len, show S (k' + 1) - S k' = i by omega]; exact ⟨⟨sg, ta, le, f, so, us, rc, n + i, sn, S, rfl, by omega, hsn, hM, rfl, rfl⟩, rfl⟩) dX1_take_81
          · refine lv_aload_n hx hb dX1_take_39 rfl (lv_at hl 0 rfl) ?_
            refine va_get (D := D) (ci := 1) (v := .ref md) (C := RX1) (T := TX1) (N := 9) hx hb hts hin1 hown hK hP 0 rfl rfl 5 (by decide) f19 (fun _ h9 => h9) rfl dX1_take_40 ?_
            refine lv_aload_n hx hb dX1_take_43 rfl (lv_at hl 0 rfl) ?_
            refine va_get (D := D) (ci := 1) (v := .int (nI (n + i))) (C := RX1) (T := TX1) (N := 9) hx hb hts hin1 hown hK hP 0 rfl rfl 6 (by decide) f26 (fun _ h9 => h9) rfl dX1_take_44 ?_
            refine lv_aload_n hx hb dX1_take_47 rfl (lv_at hl 0 rfl) ?_
            refine va_get (D := D) (ci := 1) (v := .ref ms) (C := RX1) (T := TX1) (N := 9) hx hb hts hin1 hown hK hP 0 rfl rfl 0 (by decide) f7 (fun _ h9 => h9) rfl dX1_take_48 ?_
            refine lv_aload_n hx hb dX1_take_51 rfl (lv_at hl 0 rfl) ?_
            refine va_get (D := D) (ci := 1) (v := .ref mt) (C := RX1) (T := TX1) (N := 9) hx hb hts hin1 hown hK hP 0 rfl rfl 2 (by decide) f13 (fun _ h9 => h9) rfl dX1_take_52 ?_
            refine lv_iload_n hx hb dX1_take_55 rfl (lv_at hl 1 rfl) ?_
            refine rn_ald (v := nI (S k')) hx hb hK hP 2 0 rfl hty (by have := hM.2.2.2.2.2; omega) (by decide) ((hM.2.1 k' (by omega) (by omega)).1) dX1_take_56 ?_
            refine lv_iload_n hx hb dX1_take_57 rfl (lv_at hl 2 rfl) ?_
            refine rn_iadd hx hb dX1_take_58 ?_
            refine rn_ald (v := sg (S k' + i)) hx hb hK hP 1 0 rfl hty (by omega) (by decide) (rfl) dX1_take_59 ?_
            refine rn_ast hx hb hK hP hD hS 4 0 rfl hty (by omega) (by decide) dX1_take_60 (fun H locs hP hD hS => ?_)
            have hP : va_P D vwCl ((m0, .inr (1, [.ref ms, .int (nI us), .ref mt, .ref ml, .int (nI rc), .ref md, .int (nI (n + i)), .ref mk, .int (nI sn)])) :: (ms, .inl (cI, 20000, .inl sg)) :: (mt, .inl (cI, 3001, .inl ta)) :: (ml, .inl (cI, 3001, .inl le)) :: (md, .inl (cI, 2000, .inl (upd f (n + i) (sg (S k' + i))))) :: (mk, .inl (cI, 20000, .inl so)) :: wr) H := hP
            have hD : va_D A ((m0, .inr (1, [.ref ms, .int (nI us), .ref mt, .ref ml, .int (nI rc), .ref md, .int (nI (n + i)), .ref mk, .int (nI sn)])) :: (ms, .inl (cI, 20000, .inl sg)) :: (mt, .inl (cI, 3001, .inl ta)) :: (ml, .inl (cI, 3001, .inl le)) :: (md, .inl (cI, 2000, .inl (upd f (n + i) (sg (S k' + i))))) :: (mk, .inl (cI, 20000, .inl so)) :: wr) := hD
            refine lv_aload_n hx hb dX1_take_61 rfl (lv_at hl 0 rfl) ?_
            refine lv_aload_n hx hb dX1_take_62 rfl (lv_at hl 0 rfl) ?_
            refine va_get (D := D) (ci := 1) (v := .int (nI (n + i))) (C := RX1) (T := TX1) (N := 9) hx hb hts hin1 hown hK hP 0 rfl rfl 6 (by decide) f26 (fun _ h9 => h9) rfl dX1_take_63 ?_
            refine lv_iconst (v := nI 1) hx hb dX1_take_66 (by decide) ?_
            refine rn_iadd hx hb dX1_take_67 ?_
            refine va_put (D := D) (ci := 1) (v := .int (nI (n + i + 1))) (ty := .int) (C := RX1) (T := TX1) (N := 9) hx hb hts hin1 tyX1 tyX1_ok nmX1 hown hK hP hD hS 0 rfl rfl 6 (by decide) f26 (fun _ h9 => h9) rfl (by decide +kernel) rfl rfl (Nat.le_of_ble_eq_true rfl) dX1_take_68 (fun H locs hP hD hS => ?_)
            have hP : va_P D vwCl ((m0, .inr (1, [.ref ms, .int (nI us), .ref mt, .ref ml, .int (nI rc), .ref md, .int (nI (n + i + 1)), .ref mk, .int (nI sn)])) :: (ms, .inl (cI, 20000, .inl sg)) :: (mt, .inl (cI, 3001, .inl ta)) :: (ml, .inl (cI, 3001, .inl le)) :: (md, .inl (cI, 2000, .inl (upd f (n + i) (sg (S k' + i))))) :: (mk, .inl (cI, 20000, .inl so)) :: wr) H := hP
            have hD : va_D A ((m0, .inr (1, [.ref ms, .int (nI us), .ref mt, .ref ml, .int (nI rc), .ref md, .int (nI (n + i + 1)), .ref mk, .int (nI sn)])) :: (ms, .inl (cI, 20000, .inl sg)) :: (mt, .inl (cI, 3001, .inl ta)) :: (ml, .inl (cI, 3001, .inl le)) :: (md, .inl (cI, 2000, .inl (upd f (n + i) (sg (S k' + i))))) :: (mk, .inl (cI, 20000, .inl so)) :: wr) := hD
            refine rn_iinc (n := 1) (lv' := [(2, .int (nI (i + 1))), (0, .ref m0), (1, .int (nI k'))]) hx hb dX1_take_71 hl (k := 2) rfl (by decide) rfl (fun ls hl => ?_)
            refine lv_goto (tgt := 29) hx hb dX1_take_74 (by decide) ?_
            exact ih (i + 1) (upd f (n + i) (sg (S k' + i))) H locs ls (by omega) (by omega) (fun z hz => by rw [pk_un (by omega)]; exact hinv1 z hz) (fun z hz => (Nat.lt_or_ge z i).elim (fun h => by rw [pk_un (by omega)]; exact hinv2 z h) (fun h => by rw [show z = i by omega, pk_us])) hP hD hS (lv_sub hl [1, 2, 0] rfl)
      exact loop ((S (k' + 1) - S k') + 1) 0 dr s.heap [] ls (by omega) (Nat.zero_le _) (fun _ _ => rfl) (fun z hz => absurd hz (Nat.not_lt_zero z)) hP hD hS (lv_sub hl [1, 2, 0] rfl)
    · refine lv_iconst (v := (-1)) hx hb dX1_take_25 (by decide) ?_
      exact mu_iret hx hb hr hlocks hP hK hD hS (by first | (rw [sp_take_, hw_k]; exact ⟨⟨sg, ta, le, dr, so, us, rc, n, sn, S, rfl, hn, hsn, hM, rfl, rfl⟩, rfl⟩) | (rw [cn_tk_some hw_k, if_pos (by rw [sp_len, cn_row, sp_len]; omega)]; exact ⟨⟨sg, ta, le, dr, so, us, rc, n, sn, S, rfl, hn, hsn, hM, rfl, rfl⟩, rfl⟩)) dX1_take_26
  · subst er2
    have hw_k := cn_row_no (ch := sg) (md_R hM) hk_k
    refine lv_if_eq (tgt := 25) hx hb dX1_take_5 (by decide) (fun c_5 => ?_) (fun c_5 => absurd c_5 (not_not_intro (by decide)))
    refine lv_iconst (v := (-1)) hx hb dX1_take_25 (by decide) ?_
    exact mu_iret hx hb hr hlocks hP hK hD hS (by first | (rw [sp_take_, hw_k]; exact ⟨⟨sg, ta, le, dr, so, us, rc, n, sn, S, rfl, hn, hsn, hM, rfl, rfl⟩, rfl⟩) | (rw [cn_tk_some hw_k, if_pos (by rw [sp_len, cn_row, sp_len]; omega)]; exact ⟨⟨sg, ta, le, dr, so, us, rc, n, sn, S, rfl, hn, hsn, hM, rfl, rfl⟩, rfl⟩)) dX1_take_26
set_option maxHeartbeats 4000000 in
set_option maxRecDepth 100000 in
/-- write -/
theorem km_write (l : Launch) (D : va_G) {tys : List (ClassId × FieldType)} {cI : ClassId} (hty : tys[0]? = some (cI, .int)) (m0 ms mt ml md mk : Nat) (wr : va_W) (sg ta le dr so : Nat → Int32) (us rc n sn : Nat) (A : Nat → Prop) (S : Nat → Nat) (hM : md_S ta le us rc S) (hn : n ≤ 2000) (hsn : sn ≤ 20000) (q g : Int32) : Met l yX1_write wsX1_write ({ frames := 0, cells := 0, slots := 0, locals := 0 }) (mu_Pc D vwCl (md_W cI m0 ms mt ml md mk wr sg ta le dr so us rc n sn) tys A [.ref m0, .int q, .int g]) (va_Qi (fun r w => md_Ok cI (md_W cI m0 ms mt ml md mk wr) (sp_write (sp_sl dr 0 n) q g).1 (cn_rows sg S 1 rc) w ∧ r = (sp_write (sp_sl dr 0 n) q g).2) (mu_B D vwCl tys A) A) 0 0 A := by
  refine mu_of (cc := cX1_write) (maxL := 4) (ret := some .int) (own := RX1) (by decide) rfl rfl (Nat.le_of_ble_eq_true rfl) ?_
  intro p e s m below meth c hx hb hr hts hown hlocks hml hP hK hD hS ls hl
  have hl : lv_has ls 4 [(0, .ref m0), (1, .int q), (2, .int g)] := hl
  have hin1 : ∀ w ∈ u_ws RX1 TX1 9, w ∈ wsX1_write := by decide +kernel
  have f19 := hts (.fieldLink RX1 19 "NameNumbersModel" "draft" "[I") (by decide +kernel)
  have f26 := hts (.fieldLink RX1 26 "NameNumbersModel" "written" "I") (by decide +kernel)
  have hP : va_P D vwCl (md_W cI m0 ms mt ml md mk wr sg ta le dr so us rc n sn) s.heap := hP
  refine lv_iload_n hx hb dX1_write_0 rfl (lv_at hl 1 rfl) ?_
  refine lv_if_lt (tgt := 43) hx hb dX1_write_1 (by decide) (fun c_1 => ?_) (fun c_1 => ?_)
  · refine lv_iconst (v := (-1)) hx hb dX1_write_43 (by decide) ?_
    exact mu_iret hx hb hr hlocks hP hK hD hS (by rw [cn_wr_no (by first | exact Or.inr (Or.inr (Or.inl c_1)) | exact Or.inr (Or.inr (Or.inr (Or.inl (nI_lt (a := 1114111 - g.toNatClampNeg) (by omega) hx31)))) | exact Or.inl c_11 | exact Or.inr (Or.inl (nI_lt c_18 hy31)) | exact Or.inr (Or.inr (Or.inr (Or.inl (by rw [nI_clamp hy31]; exact nI_lt (by omega) hx31)))) | exact Or.inr (Or.inr (Or.inr (Or.inr (by rw [nI_clamp hy31, sp_len]; omega)))))]; exact ⟨⟨sg, ta, le, dr, so, us, rc, n, sn, S, rfl, hn, hsn, hM, rfl, rfl⟩, rfl⟩) dX1_write_44
  · obtain ⟨x, hx31, rfl⟩ := nI_of c_1
    refine lv_iload_n hx hb dX1_write_4 rfl (lv_at hl 1 rfl) ?_
    refine lv_ldc (v := nI 1114111) hx hb hown (hts (.constant RX1 25 (nI 1114111)) (by decide +kernel)) dX1_write_5 ?_
    refine rn_icmp_gt (tgt := 43) hx hb (by omega) (by omega) dX1_write_7 (by decide) (fun c_7 => ?_) (fun c_7 => ?_)
    · refine lv_iconst (v := (-1)) hx hb dX1_write_43 (by decide) ?_
      exact mu_iret hx hb hr hlocks hP hK hD hS (by rw [cn_wr_no (by first | exact Or.inr (Or.inr (Or.inl c_1)) | exact Or.inr (Or.inr (Or.inr (Or.inl (nI_lt (a := 1114111 - g.toNatClampNeg) (by omega) hx31)))) | exact Or.inl c_11 | exact Or.inr (Or.inl (nI_lt c_18 hy31)) | exact Or.inr (Or.inr (Or.inr (Or.inl (by rw [nI_clamp hy31]; exact nI_lt (by omega) hx31)))) | exact Or.inr (Or.inr (Or.inr (Or.inr (by rw [nI_clamp hy31, sp_len]; omega)))))]; exact ⟨⟨sg, ta, le, dr, so, us, rc, n, sn, S, rfl, hn, hsn, hM, rfl, rfl⟩, rfl⟩) dX1_write_44
    · refine lv_iload_n hx hb dX1_write_10 rfl (lv_at hl 2 rfl) ?_
      refine lv_if_lt (tgt := 43) hx hb dX1_write_11 (by decide) (fun c_11 => ?_) (fun c_11 => ?_)
      · refine lv_iconst (v := (-1)) hx hb dX1_write_43 (by decide) ?_
        exact mu_iret hx hb hr hlocks hP hK hD hS (by rw [cn_wr_no (by first | exact Or.inr (Or.inr (Or.inl c_1)) | exact Or.inr (Or.inr (Or.inr (Or.inl (nI_lt (a := 1114111 - g.toNatClampNeg) (by omega) hx31)))) | exact Or.inl c_11 | exact Or.inr (Or.inl (nI_lt c_18 hy31)) | exact Or.inr (Or.inr (Or.inr (Or.inl (by rw [nI_clamp hy31]; exact nI_lt (by omega) hx31)))) | exact Or.inr (Or.inr (Or.inr (Or.inr (by rw [nI_clamp hy31, sp_len]; omega)))))]; exact ⟨⟨sg, ta, le, dr, so, us, rc, n, sn, S, rfl, hn, hsn, hM, rfl, rfl⟩, rfl⟩) dX1_write_44
      · obtain ⟨y, hy31, rfl⟩ := nI_of c_11
        refine lv_iload_n hx hb dX1_write_14 rfl (lv_at hl 2 rfl) ?_
        refine lv_sipush (v := nI 500) hx hb dX1_write_15 (by decide) ?_
        refine rn_icmp_gt (tgt := 43) hx hb (by omega) (by omega) dX1_write_18 (by decide) (fun c_18 => ?_) (fun c_18 => ?_)
        · refine lv_iconst (v := (-1)) hx hb dX1_write_43 (by decide) ?_
          exact mu_iret hx hb hr hlocks hP hK hD hS (by rw [cn_wr_no (by first | exact Or.inr (Or.inr (Or.inl c_1)) | exact Or.inr (Or.inr (Or.inr (Or.inl (nI_lt (a := 1114111 - g.toNatClampNeg) (by omega) hx31)))) | exact Or.inl c_11 | exact Or.inr (Or.inl (nI_lt c_18 hy31)) | exact Or.inr (Or.inr (Or.inr (Or.inl (by rw [nI_clamp hy31]; exact nI_lt (by omega) hx31)))) | exact Or.inr (Or.inr (Or.inr (Or.inr (by rw [nI_clamp hy31, sp_len]; omega)))))]; exact ⟨⟨sg, ta, le, dr, so, us, rc, n, sn, S, rfl, hn, hsn, hM, rfl, rfl⟩, rfl⟩) dX1_write_44
        · refine lv_iload_n hx hb dX1_write_21 rfl (lv_at hl 1 rfl) ?_
          refine lv_iload_n hx hb dX1_write_22 rfl (lv_at hl 2 rfl) ?_
          refine rn_iadd hx hb dX1_write_23 ?_
          refine lv_ldc (v := nI 1114111) hx hb hown (hts (.constant RX1 25 (nI 1114111)) (by decide +kernel)) dX1_write_24 ?_
          refine rn_icmp_gt (tgt := 43) hx hb (by omega) (by omega) dX1_write_26 (by decide) (fun c_26 => ?_) (fun c_26 => ?_)
          · refine lv_iconst (v := (-1)) hx hb dX1_write_43 (by decide) ?_
            exact mu_iret hx hb hr hlocks hP hK hD hS (by rw [cn_wr_no (by first | exact Or.inr (Or.inr (Or.inl c_1)) | exact Or.inr (Or.inr (Or.inr (Or.inl (nI_lt (a := 1114111 - g.toNatClampNeg) (by omega) hx31)))) | exact Or.inl c_11 | exact Or.inr (Or.inl (nI_lt c_18 hy31)) | exact Or.inr (Or.inr (Or.inr (Or.inl (by rw [nI_clamp hy31]; exact nI_lt (by omega) hx31)))) | exact Or.inr (Or.inr (Or.inr (Or.inr (by rw [nI_clamp hy31, sp_len]; omega)))))]; exact ⟨⟨sg, ta, le, dr, so, us, rc, n, sn, S, rfl, hn, hsn, hM, rfl, rfl⟩, rfl⟩) dX1_write_44
          · refine lv_aload_n hx hb dX1_write_29 rfl (lv_at hl 0 rfl) ?_
            refine va_get (D := D) (ci := 1) (v := .int (nI n)) (C := RX1) (T := TX1) (N := 9) hx hb hts hin1 hown hK hP 0 rfl rfl 6 (by decide) f26 (fun _ h9 => h9) rfl dX1_write_30 ?_
            refine lv_iload_n hx hb dX1_write_33 rfl (lv_at hl 2 rfl) ?_
            refine rn_iadd hx hb dX1_write_34 ?_
            refine lv_iconst (v := nI 1) hx hb dX1_write_35 (by decide) ?_
            refine rn_iadd hx hb dX1_write_36 ?_
            refine lv_sipush (v := nI 2000) hx hb dX1_write_37 (by decide) ?_
            refine rn_icmp_le (tgt := 45) hx hb (by omega) (by omega) dX1_write_40 (by decide) (fun c_40 => ?_) (fun c_40 => ?_)
            · refine lv_iconst (v := nI 0) hx hb dX1_write_45 (by decide) ?_
              refine lv_istore_n (lv' := [(3, .int (nI 0)), (0, .ref m0), (1, .int (nI x)), (2, .int (nI y))]) hx hb dX1_write_46 rfl hl (by decide) rfl (fun ls hl => ?_)
              have loop : ∀ (j : Nat) (i : Nat) (f : Nat → Int32) (H : Heap) (locs : List Loc) (ls : Array Slot), y + 2 ≤ i + j → i ≤ y + 1 → (∀ z, z < n → f z = dr z) → (∀ z, z < i → f (n + z) = nI (x + z)) → va_P D vwCl (md_W cI m0 ms mt ml md mk wr sg ta le f so us rc (n + i) sn) H → va_D A (md_W cI m0 ms mt ml md mk wr sg ta le f so us rc (n + i) sn) → va_S A s.heap H locs → lv_has ls 4 [(0, .ref m0), (1, .int (nI x)), (2, .int (nI y)), (3, .int (nI i))] → W p l e { frames := 0, cells := 0, slots := 0, locals := 0 } s m [.ref m0, .int (nI x), .int (nI y)].toArray below meth c H locs 0 0 (MQ below (va_Qi (fun r w => md_Ok cI (md_W cI m0 ms mt ml md mk wr) (sp_write (sp_sl dr 0 n) (nI x) (nI y)).1 (cn_rows sg S 1 rc) w ∧ r = (sp_write (sp_sl dr 0 n) (nI x) (nI y)).2) (mu_B D vwCl tys A) A) [.ref m0, .int (nI x), .int (nI y)].toArray s 0 0 A) (F0 m 47 ls []) := by
                intro j
                induction j with
                | zero => intro i f H locs ls hj hi hinv1 hinv2 hP hD hS hl; exfalso; omega
                | succ j ih =>
                  intro i f H locs ls hj hi hinv1 hinv2 hP hD hS hl
                  refine lv_iload_n hx hb dX1_write_47 rfl (lv_at hl 3 rfl) ?_
                  refine lv_iload_n hx hb dX1_write_48 rfl (lv_at hl 2 rfl) ?_
                  refine rn_icmp_gt (tgt := 80) hx hb (by omega) (by omega) dX1_write_49 (by decide) (fun c_49 => ?_) (fun c_49 => ?_)
                  · refine lv_aload_n hx hb dX1_write_80 rfl (lv_at hl 0 rfl) ?_
                    refine va_get (D := D) (ci := 1) (v := .int (nI (n + i))) (C := RX1) (T := TX1) (N := 9) hx hb hts hin1 hown hK hP 0 rfl rfl 6 (by decide) f26 (fun _ h9 => h9) rfl dX1_write_81 ?_
                    exact mu_iret hx hb hr hlocks hP hK hD hS (by have hi9 : i = y + 1 := (by omega); subst hi9; rw [cn_wr_yes (f := f) c_11 c_1 c_18 (by omega) (by omega) hinv1 hinv2]; exact ⟨⟨sg, ta, le, f, so, us, rc, _, sn, S, rfl, by omega, hsn, hM, rfl, rfl⟩, rfl⟩) dX1_write_84
                  · refine lv_aload_n hx hb dX1_write_52 rfl (lv_at hl 0 rfl) ?_
                    refine va_get (D := D) (ci := 1) (v := .ref md) (C := RX1) (T := TX1) (N := 9) hx hb hts hin1 hown hK hP 0 rfl rfl 5 (by decide) f19 (fun _ h9 => h9) rfl dX1_write_53 ?_
                    refine lv_aload_n hx hb dX1_write_56 rfl (lv_at hl 0 rfl) ?_
                    refine va_get (D := D) (ci := 1) (v := .int (nI (n + i))) (C := RX1) (T := TX1) (N := 9) hx hb hts hin1 hown hK hP 0 rfl rfl 6 (by decide) f26 (fun _ h9 => h9) rfl dX1_write_57 ?_
                    refine lv_iload_n hx hb dX1_write_60 rfl (lv_at hl 1 rfl) ?_
                    refine lv_iload_n hx hb dX1_write_61 rfl (lv_at hl 3 rfl) ?_
                    refine rn_iadd hx hb dX1_write_62 ?_
                    refine rn_ast hx hb hK hP hD hS 4 0 rfl hty (by omega) (by decide) dX1_write_63 (fun H locs hP hD hS => ?_)
                    have hP : va_P D vwCl ((m0, .inr (1, [.ref ms, .int (nI us), .ref mt, .ref ml, .int (nI rc), .ref md, .int (nI (n + i)), .ref mk, .int (nI sn)])) :: (ms, .inl (cI, 20000, .inl sg)) :: (mt, .inl (cI, 3001, .inl ta)) :: (ml, .inl (cI, 3001, .inl le)) :: (md, .inl (cI, 2000, .inl (upd f (n + i) (nI (x + i))))) :: (mk, .inl (cI, 20000, .inl so)) :: wr) H := hP
                    have hD : va_D A ((m0, .inr (1, [.ref ms, .int (nI us), .ref mt, .ref ml, .int (nI rc), .ref md, .int (nI (n + i)), .ref mk, .int (nI sn)])) :: (ms, .inl (cI, 20000, .inl sg)) :: (mt, .inl (cI, 3001, .inl ta)) :: (ml, .inl (cI, 3001, .inl le)) :: (md, .inl (cI, 2000, .inl (upd f (n + i) (nI (x + i))))) :: (mk, .inl (cI, 20000, .inl so)) :: wr) := hD
                    refine lv_aload_n hx hb dX1_write_64 rfl (lv_at hl 0 rfl) ?_
                    refine lv_aload_n hx hb dX1_write_65 rfl (lv_at hl 0 rfl) ?_
                    refine va_get (D := D) (ci := 1) (v := .int (nI (n + i))) (C := RX1) (T := TX1) (N := 9) hx hb hts hin1 hown hK hP 0 rfl rfl 6 (by decide) f26 (fun _ h9 => h9) rfl dX1_write_66 ?_
                    refine lv_iconst (v := nI 1) hx hb dX1_write_69 (by decide) ?_
                    refine rn_iadd hx hb dX1_write_70 ?_
                    refine va_put (D := D) (ci := 1) (v := .int (nI (n + i + 1))) (ty := .int) (C := RX1) (T := TX1) (N := 9) hx hb hts hin1 tyX1 tyX1_ok nmX1 hown hK hP hD hS 0 rfl rfl 6 (by decide) f26 (fun _ h9 => h9) rfl (by decide +kernel) rfl rfl (Nat.le_of_ble_eq_true rfl) dX1_write_71 (fun H locs hP hD hS => ?_)
                    have hP : va_P D vwCl ((m0, .inr (1, [.ref ms, .int (nI us), .ref mt, .ref ml, .int (nI rc), .ref md, .int (nI (n + i + 1)), .ref mk, .int (nI sn)])) :: (ms, .inl (cI, 20000, .inl sg)) :: (mt, .inl (cI, 3001, .inl ta)) :: (ml, .inl (cI, 3001, .inl le)) :: (md, .inl (cI, 2000, .inl (upd f (n + i) (nI (x + i))))) :: (mk, .inl (cI, 20000, .inl so)) :: wr) H := hP
                    have hD : va_D A ((m0, .inr (1, [.ref ms, .int (nI us), .ref mt, .ref ml, .int (nI rc), .ref md, .int (nI (n + i + 1)), .ref mk, .int (nI sn)])) :: (ms, .inl (cI, 20000, .inl sg)) :: (mt, .inl (cI, 3001, .inl ta)) :: (ml, .inl (cI, 3001, .inl le)) :: (md, .inl (cI, 2000, .inl (upd f (n + i) (nI (x + i))))) :: (mk, .inl (cI, 20000, .inl so)) :: wr) := hD
                    refine rn_iinc (n := 1) (lv' := [(3, .int (nI (i + 1))), (0, .ref m0), (1, .int (nI x)), (2, .int (nI y))]) hx hb dX1_write_74 hl (k := 3) rfl (by decide) rfl (fun ls hl => ?_)
                    refine lv_goto (tgt := 47) hx hb dX1_write_77 (by decide) ?_
                    exact ih (i + 1) (upd f (n + i) (nI (x + i))) H locs ls (by omega) (by omega) (fun z hz => by rw [pk_un (by omega)]; exact hinv1 z hz) (fun z hz => (Nat.lt_or_ge z i).elim (fun h => by rw [pk_un (by omega)]; exact hinv2 z h) (fun h => by rw [show z = i by omega, pk_us])) hP hD hS (lv_sub hl [1, 2, 3, 0] rfl)
              exact loop (y + 2) 0 dr s.heap [] ls (by omega) (Nat.zero_le _) (fun _ _ => rfl) (fun z hz => absurd hz (Nat.not_lt_zero z)) hP hD hS (lv_sub hl [1, 2, 3, 0] rfl)
            · refine lv_iconst (v := (-1)) hx hb dX1_write_43 (by decide) ?_
              exact mu_iret hx hb hr hlocks hP hK hD hS (by rw [cn_wr_no (by first | exact Or.inr (Or.inr (Or.inl c_1)) | exact Or.inr (Or.inr (Or.inr (Or.inl (nI_lt (a := 1114111 - g.toNatClampNeg) (by omega) hx31)))) | exact Or.inl c_11 | exact Or.inr (Or.inl (nI_lt c_18 hy31)) | exact Or.inr (Or.inr (Or.inr (Or.inl (by rw [nI_clamp hy31]; exact nI_lt (by omega) hx31)))) | exact Or.inr (Or.inr (Or.inr (Or.inr (by rw [nI_clamp hy31, sp_len]; omega)))))]; exact ⟨⟨sg, ta, le, dr, so, us, rc, n, sn, S, rfl, hn, hsn, hM, rfl, rfl⟩, rfl⟩) dX1_write_44
set_option maxHeartbeats 4000000 in
set_option maxRecDepth 100000 in
/-- part -/
theorem km_part (l : Launch) (D : va_G) {tys : List (ClassId × FieldType)} {cI : ClassId} (hty : tys[0]? = some (cI, .int)) (m0 ms mt ml md mk : Nat) (wr : va_W) (sg ta le dr so : Nat → Int32) (us rc n sn : Nat) (A : Nat → Prop) (S : Nat → Nat) (hM : md_S ta le us rc S) (hn : n ≤ 2000) (hsn : sn ≤ 20000) (k i g : Int32) : Met l yX1_part wsX1_part ({ frames := 2, cells := 0, slots := 0, locals := 48 }) (mu_Pc D vwCl (md_W cI m0 ms mt ml md mk wr sg ta le dr so us rc n sn) tys A [.ref m0, .int k, .int i, .int g]) (va_Qi (fun r w => md_Ok cI (md_W cI m0 ms mt ml md mk wr) (sp_sl dr 0 n) (sp_part (cn_rows sg S 1 rc) k i g).1 w ∧ r = (sp_part (cn_rows sg S 1 rc) k i g).2) (mu_B D vwCl tys A) A) 0 0 A := by
  refine mu_of (cc := cX1_part) (maxL := 5) (ret := some .int) (own := RX1) (by decide) rfl rfl (Nat.le_of_ble_eq_true rfl) ?_
  intro p e s m below meth c hx hb hr hts hown hlocks hml hP hK hD hS ls hl
  have hl : lv_has ls 5 [(0, .ref m0), (1, .int k), (2, .int i), (3, .int g)] := hl
  have hin1 : ∀ w ∈ u_ws RX1 TX1 9, w ∈ wsX1_part := by decide +kernel
  have f7 := hts (.fieldLink RX1 7 "NameNumbersModel" "signs" "[I") (by decide +kernel)
  have f13 := hts (.fieldLink RX1 13 "NameNumbersModel" "starts" "[I") (by decide +kernel)
  have f16 := hts (.fieldLink RX1 16 "NameNumbersModel" "lengths" "[I") (by decide +kernel)
  have f22 := hts (.fieldLink RX1 22 "NameNumbersModel" "sought" "[I") (by decide +kernel)
  have f33 := hts (.fieldLink RX1 33 "NameNumbersModel" "soughtLength" "I") (by decide +kernel)
  have hP : va_P D vwCl (md_W cI m0 ms mt ml md mk wr sg ta le dr so us rc n sn) s.heap := hP
  have hrc := hM.2.2.2.2.2
  refine lv_aload_n hx hb dX1_part_0 rfl (lv_at hl 0 rfl) ?_
  refine lv_iload_n hx hb dX1_part_1 rfl (lv_at hl 1 rfl) ?_
  refine vp_callSi (W.runV (As := [.int k]) (rest := []) ⟨hx, hb, hml, hown, hts⟩ (km_isRow l D hty m0 ms mt ml md mk wr sg ta le dr so us rc n sn hM.2.2.2.2.2 k) (cwV 1 hts gX1_part_X1_isRow rfl rfl rfl (by decide +kernel) ⟨Nat.le_of_ble_eq_true rfl, Nat.le_of_ble_eq_true rfl⟩) (pu_preV hK hP 0 rfl rfl) rfl rfl hl.1 rfl (lv_room (Nat.le_of_ble_eq_true rfl)) dX1_part_2 ⟨Nat.zero_le _, Nat.zero_le _⟩) (fun r2 er2 => ?_)
  rcases er2 with ⟨er2, hk_k⟩ | ⟨er2, hk_k⟩
  · subst er2
    obtain ⟨k', h1_k, h2_k, rfl⟩ := hk_k
    have hw_k := cn_row_yes (ch := sg) (md_R hM) h1_k h2_k
    refine lv_if_eq (tgt := 38) hx hb dX1_part_5 (by decide) (fun c_5 => absurd c_5 (by decide)) (fun c_5 => ?_)
    have htk := cn_top (md_R hM) (k := k' + 1) (by omega) (by omega)
    have hlk := hM.2.2.1 k' h1_k h2_k
    refine lv_iload_n hx hb dX1_part_8 rfl (lv_at hl 2 rfl) ?_
    refine lv_if_lt (tgt := 38) hx hb dX1_part_9 (by decide) (fun c_9 => ?_) (fun c_9 => ?_)
    · refine lv_iconst (v := (-1)) hx hb dX1_part_38 (by decide) ?_
      exact mu_iret hx hb hr hlocks hP hK hD hS (by first | (rw [sp_part, hw_k]; exact ⟨⟨sg, ta, le, dr, so, us, rc, n, sn, S, rfl, hn, hsn, hM, rfl, rfl⟩, rfl⟩) | (rw [cn_pt_some hw_k, if_pos (by rw [cn_row, sp_len]; first | exact Or.inl c_9 | exact Or.inr (Or.inr (Or.inl c_13)) | exact Or.inr (Or.inl (nI_lt c_23 hx31)) | exact Or.inr (Or.inr (Or.inr (by rw [nI_clamp hx31]; exact nI_lt c_35 hy31))))]; exact ⟨⟨sg, ta, le, dr, so, us, rc, n, sn, S, rfl, hn, hsn, hM, rfl, rfl⟩, rfl⟩)) dX1_part_39
    · obtain ⟨x, hx31, rfl⟩ := nI_of c_9
      refine lv_iload_n hx hb dX1_part_12 rfl (lv_at hl 3 rfl) ?_
      refine lv_if_lt (tgt := 38) hx hb dX1_part_13 (by decide) (fun c_13 => ?_) (fun c_13 => ?_)
      · refine lv_iconst (v := (-1)) hx hb dX1_part_38 (by decide) ?_
        exact mu_iret hx hb hr hlocks hP hK hD hS (by first | (rw [sp_part, hw_k]; exact ⟨⟨sg, ta, le, dr, so, us, rc, n, sn, S, rfl, hn, hsn, hM, rfl, rfl⟩, rfl⟩) | (rw [cn_pt_some hw_k, if_pos (by rw [cn_row, sp_len]; first | exact Or.inl c_9 | exact Or.inr (Or.inr (Or.inl c_13)) | exact Or.inr (Or.inl (nI_lt c_23 hx31)) | exact Or.inr (Or.inr (Or.inr (by rw [nI_clamp hx31]; exact nI_lt c_35 hy31))))]; exact ⟨⟨sg, ta, le, dr, so, us, rc, n, sn, S, rfl, hn, hsn, hM, rfl, rfl⟩, rfl⟩)) dX1_part_39
      · obtain ⟨y, hy31, rfl⟩ := nI_of c_13
        refine lv_iload_n hx hb dX1_part_16 rfl (lv_at hl 2 rfl) ?_
        refine lv_aload_n hx hb dX1_part_17 rfl (lv_at hl 0 rfl) ?_
        refine va_get (D := D) (ci := 1) (v := .ref ml) (C := RX1) (T := TX1) (N := 9) hx hb hts hin1 hown hK hP 0 rfl rfl 3 (by decide) f16 (fun _ h9 => h9) rfl dX1_part_18 ?_
        refine lv_iload_n hx hb dX1_part_21 rfl (lv_at hl 1 rfl) ?_
        refine rn_ald (v := nI (S (k' + 1) - S k')) hx hb hK hP 3 0 rfl hty (by have := hM.2.2.2.2.2; omega) (by decide) ((hM.2.1 k' (by omega) (by omega)).2) dX1_part_22 ?_
        refine rn_icmp_gt (tgt := 38) hx hb (by omega) (by omega) dX1_part_23 (by decide) (fun c_23 => ?_) (fun c_23 => ?_)
        · refine lv_iconst (v := (-1)) hx hb dX1_part_38 (by decide) ?_
          exact mu_iret hx hb hr hlocks hP hK hD hS (by first | (rw [sp_part, hw_k]; exact ⟨⟨sg, ta, le, dr, so, us, rc, n, sn, S, rfl, hn, hsn, hM, rfl, rfl⟩, rfl⟩) | (rw [cn_pt_some hw_k, if_pos (by rw [cn_row, sp_len]; first | exact Or.inl c_9 | exact Or.inr (Or.inr (Or.inl c_13)) | exact Or.inr (Or.inl (nI_lt c_23 hx31)) | exact Or.inr (Or.inr (Or.inr (by rw [nI_clamp hx31]; exact nI_lt c_35 hy31))))]; exact ⟨⟨sg, ta, le, dr, so, us, rc, n, sn, S, rfl, hn, hsn, hM, rfl, rfl⟩, rfl⟩)) dX1_part_39
        · refine lv_iload_n hx hb dX1_part_26 rfl (lv_at hl 3 rfl) ?_
          refine lv_aload_n hx hb dX1_part_27 rfl (lv_at hl 0 rfl) ?_
          refine va_get (D := D) (ci := 1) (v := .ref ml) (C := RX1) (T := TX1) (N := 9) hx hb hts hin1 hown hK hP 0 rfl rfl 3 (by decide) f16 (fun _ h9 => h9) rfl dX1_part_28 ?_
          refine lv_iload_n hx hb dX1_part_31 rfl (lv_at hl 1 rfl) ?_
          refine rn_ald (v := nI (S (k' + 1) - S k')) hx hb hK hP 3 0 rfl hty (by have := hM.2.2.2.2.2; omega) (by decide) ((hM.2.1 k' (by omega) (by omega)).2) dX1_part_32 ?_
          refine lv_iload_n hx hb dX1_part_33 rfl (lv_at hl 2 rfl) ?_
          refine rn_isub hx hb (by omega) dX1_part_34 ?_
          refine rn_icmp_le (tgt := 40) hx hb (by omega) (by omega) dX1_part_35 (by decide) (fun c_35 => ?_) (fun c_35 => ?_)
          · refine lv_aload_n hx hb dX1_part_40 rfl (lv_at hl 0 rfl) ?_
            refine lv_iload_n hx hb dX1_part_41 rfl (lv_at hl 3 rfl) ?_
            refine va_put (D := D) (ci := 1) (v := .int (nI y)) (ty := .int) (C := RX1) (T := TX1) (N := 9) hx hb hts hin1 tyX1 tyX1_ok nmX1 hown hK hP hD hS 0 rfl rfl 8 (by decide) f33 (fun _ h9 => h9) rfl (by decide +kernel) rfl rfl (Nat.le_of_ble_eq_true rfl) dX1_part_42 (fun H locs hP hD hS => ?_)
            have hP : va_P D vwCl ((m0, .inr (1, [.ref ms, .int (nI us), .ref mt, .ref ml, .int (nI rc), .ref md, .int (nI n), .ref mk, .int (nI y)])) :: (ms, .inl (cI, 20000, .inl sg)) :: (mt, .inl (cI, 3001, .inl ta)) :: (ml, .inl (cI, 3001, .inl le)) :: (md, .inl (cI, 2000, .inl dr)) :: (mk, .inl (cI, 20000, .inl so)) :: wr) H := hP
            have hD : va_D A ((m0, .inr (1, [.ref ms, .int (nI us), .ref mt, .ref ml, .int (nI rc), .ref md, .int (nI n), .ref mk, .int (nI y)])) :: (ms, .inl (cI, 20000, .inl sg)) :: (mt, .inl (cI, 3001, .inl ta)) :: (ml, .inl (cI, 3001, .inl le)) :: (md, .inl (cI, 2000, .inl dr)) :: (mk, .inl (cI, 20000, .inl so)) :: wr) := hD
            refine lv_iconst (v := nI 0) hx hb dX1_part_45 (by decide) ?_
            refine lv_istore (lv' := [(4, .int (nI 0)), (0, .ref m0), (1, .int (nI k')), (2, .int (nI x)), (3, .int (nI y))]) hx hb dX1_part_46 hl (by decide) rfl (fun ls hl => ?_)
            have loop : ∀ (j : Nat) (t : Nat) (f : Nat → Int32) (H : Heap) (locs : List Loc) (ls : Array Slot), y + 1 ≤ t + j → t ≤ y → (∀ z, z < t → f z = sg (S k' + x + z)) → va_P D vwCl (md_W cI m0 ms mt ml md mk wr sg ta le dr f us rc n y) H → va_D A (md_W cI m0 ms mt ml md mk wr sg ta le dr f us rc n y) → va_S A s.heap H locs → lv_has ls 5 [(0, .ref m0), (1, .int (nI k')), (2, .int (nI x)), (3, .int (nI y)), (4, .int (nI t))] → W p l e { frames := 2, cells := 0, slots := 0, locals := 48 } s m [.ref m0, .int (nI k'), .int (nI x), .int (nI y)].toArray below meth c H locs 0 0 (MQ below (va_Qi (fun r w => md_Ok cI (md_W cI m0 ms mt ml md mk wr) (sp_sl dr 0 n) (sp_part (cn_rows sg S 1 rc) (nI k') (nI x) (nI y)).1 w ∧ r = (sp_part (cn_rows sg S 1 rc) (nI k') (nI x) (nI y)).2) (mu_B D vwCl tys A) A) [.ref m0, .int (nI k'), .int (nI x), .int (nI y)].toArray s 0 0 A) (F0 m 48 ls []) := by
              intro j
              induction j with
              | zero => intro t f H locs ls hj ht hinv hP hD hS hl; exfalso; omega
              | succ j ih =>
                intro t f H locs ls hj ht hinv hP hD hS hl
                refine lv_iload hx hb dX1_part_48 (lv_at hl 4 rfl) ?_
                refine lv_iload_n hx hb dX1_part_50 rfl (lv_at hl 3 rfl) ?_
                refine rn_icmp_ge (tgt := 83) hx hb (by omega) (by omega) dX1_part_51 (by decide) (fun c_51 => ?_) (fun c_51 => ?_)
                · obtain rfl : t = y := by omega
                  have hso : sp_sl f 0 t = sp_sl sg (S k' + x) t := sp_ext (fun z hz => by rw [Nat.zero_add]; exact hinv z hz)
                  refine lv_aload_n hx hb dX1_part_83 rfl (lv_at hl 0 rfl) ?_
                  refine mu_calli (va_runV (As := []) (rest := []) ⟨hx, hb, hml, hown, hts⟩ (km_get l D hty m0 ms mt ml md mk wr sg ta le dr f us rc n t A S hM hn (by omega)) (cwV 0 hts gX1_part_X1_get rfl rfl rfl (by decide +kernel) ⟨Nat.le_of_ble_eq_true rfl, Nat.le_of_ble_eq_true rfl⟩) (mu_preV hK hP hD 0 rfl rfl) rfl rfl hl.1 rfl (lv_room (Nat.le_of_ble_eq_true rfl)) dX1_part_84 ⟨Nat.zero_le _, Nat.zero_le _⟩) hS (fun r84 w_84 H locs er84 hP hD hS => ?_)
                  obtain ⟨sg', ta', le', us', rc', S', rfl, hM', hsp⟩ := er84
                  exact mu_iret hx hb hr hlocks hP hK hD hS (by rw [cn_pt_some hw_k, if_neg (cn_pt_no c_9 c_13 hx31 hy31 c_23 c_35 (by omega)), cn_pt_row hx31 hy31 c_23 c_35, ← hso, hsp]; exact ⟨⟨sg', ta', le', dr, f, us', rc', n, _, S', rfl, hn, by omega, hM', rfl, rfl⟩, rfl⟩) dX1_part_87
                · refine lv_aload_n hx hb dX1_part_54 rfl (lv_at hl 0 rfl) ?_
                  refine va_get (D := D) (ci := 1) (v := .ref mk) (C := RX1) (T := TX1) (N := 9) hx hb hts hin1 hown hK hP 0 rfl rfl 7 (by decide) f22 (fun _ h9 => h9) rfl dX1_part_55 ?_
                  refine lv_iload hx hb dX1_part_58 (lv_at hl 4 rfl) ?_
                  refine lv_aload_n hx hb dX1_part_60 rfl (lv_at hl 0 rfl) ?_
                  refine va_get (D := D) (ci := 1) (v := .ref ms) (C := RX1) (T := TX1) (N := 9) hx hb hts hin1 hown hK hP 0 rfl rfl 0 (by decide) f7 (fun _ h9 => h9) rfl dX1_part_61 ?_
                  refine lv_aload_n hx hb dX1_part_64 rfl (lv_at hl 0 rfl) ?_
                  refine va_get (D := D) (ci := 1) (v := .ref mt) (C := RX1) (T := TX1) (N := 9) hx hb hts hin1 hown hK hP 0 rfl rfl 2 (by decide) f13 (fun _ h9 => h9) rfl dX1_part_65 ?_
                  refine lv_iload_n hx hb dX1_part_68 rfl (lv_at hl 1 rfl) ?_
                  refine rn_ald (v := nI (S k')) hx hb hK hP 2 0 rfl hty (by have := hM.2.2.2.2.2; omega) (by decide) ((hM.2.1 k' (by omega) (by omega)).1) dX1_part_69 ?_
                  refine lv_iload_n hx hb dX1_part_70 rfl (lv_at hl 2 rfl) ?_
                  refine rn_iadd hx hb dX1_part_71 ?_
                  refine lv_iload hx hb dX1_part_72 (lv_at hl 4 rfl) ?_
                  refine rn_iadd hx hb dX1_part_74 ?_
                  refine rn_ald (v := sg (S k' + x + t)) hx hb hK hP 1 0 rfl hty (by omega) (by decide) (rfl) dX1_part_75 ?_
                  refine rn_ast hx hb hK hP hD hS 5 0 rfl hty (by omega) (by decide) dX1_part_76 (fun H locs hP hD hS => ?_)
                  have hP : va_P D vwCl ((m0, .inr (1, [.ref ms, .int (nI us), .ref mt, .ref ml, .int (nI rc), .ref md, .int (nI n), .ref mk, .int (nI y)])) :: (ms, .inl (cI, 20000, .inl sg)) :: (mt, .inl (cI, 3001, .inl ta)) :: (ml, .inl (cI, 3001, .inl le)) :: (md, .inl (cI, 2000, .inl dr)) :: (mk, .inl (cI, 20000, .inl (upd f t (sg (S k' + x + t))))) :: wr) H := hP
                  have hD : va_D A ((m0, .inr (1, [.ref ms, .int (nI us), .ref mt, .ref ml, .int (nI rc), .ref md, .int (nI n), .ref mk, .int (nI y)])) :: (ms, .inl (cI, 20000, .inl sg)) :: (mt, .inl (cI, 3001, .inl ta)) :: (ml, .inl (cI, 3001, .inl le)) :: (md, .inl (cI, 2000, .inl dr)) :: (mk, .inl (cI, 20000, .inl (upd f t (sg (S k' + x + t))))) :: wr) := hD
                  refine rn_iinc (n := 1) (lv' := [(4, .int (nI (t + 1))), (0, .ref m0), (1, .int (nI k')), (2, .int (nI x)), (3, .int (nI y))]) hx hb dX1_part_77 hl (k := 4) rfl (by decide) rfl (fun ls hl => ?_)
                  refine lv_goto (tgt := 48) hx hb dX1_part_80 (by decide) ?_
                  exact ih (t + 1) (upd f t (sg (S k' + x + t))) H locs ls (by omega) (by omega) (fun z hz => (Nat.lt_or_ge z t).elim (fun h => by rw [pk_un (by omega)]; exact hinv z h) (fun h => by rw [show z = t by omega, pk_us])) hP hD hS (lv_sub hl [1, 2, 3, 4, 0] rfl)
            exact loop (y + 1) 0 so H locs ls (by omega) (Nat.zero_le _) (fun z hz => absurd hz (Nat.not_lt_zero z)) hP hD hS (lv_sub hl [1, 2, 3, 4, 0] rfl)
          · refine lv_iconst (v := (-1)) hx hb dX1_part_38 (by decide) ?_
            exact mu_iret hx hb hr hlocks hP hK hD hS (by first | (rw [sp_part, hw_k]; exact ⟨⟨sg, ta, le, dr, so, us, rc, n, sn, S, rfl, hn, hsn, hM, rfl, rfl⟩, rfl⟩) | (rw [cn_pt_some hw_k, if_pos (by rw [cn_row, sp_len]; first | exact Or.inl c_9 | exact Or.inr (Or.inr (Or.inl c_13)) | exact Or.inr (Or.inl (nI_lt c_23 hx31)) | exact Or.inr (Or.inr (Or.inr (by rw [nI_clamp hx31]; exact nI_lt c_35 hy31))))]; exact ⟨⟨sg, ta, le, dr, so, us, rc, n, sn, S, rfl, hn, hsn, hM, rfl, rfl⟩, rfl⟩)) dX1_part_39
  · subst er2
    have hw_k := cn_row_no (ch := sg) (md_R hM) hk_k
    refine lv_if_eq (tgt := 38) hx hb dX1_part_5 (by decide) (fun c_5 => ?_) (fun c_5 => absurd c_5 (not_not_intro (by decide)))
    refine lv_iconst (v := (-1)) hx hb dX1_part_38 (by decide) ?_
    exact mu_iret hx hb hr hlocks hP hK hD hS (by first | (rw [sp_part, hw_k]; exact ⟨⟨sg, ta, le, dr, so, us, rc, n, sn, S, rfl, hn, hsn, hM, rfl, rfl⟩, rfl⟩) | (rw [cn_pt_some hw_k, if_pos (by rw [cn_row, sp_len]; first | exact Or.inl c_9 | exact Or.inr (Or.inr (Or.inl c_13)) | exact Or.inr (Or.inl (nI_lt c_23 hx31)) | exact Or.inr (Or.inr (Or.inr (by rw [nI_clamp hx31]; exact nI_lt c_35 hy31))))]; exact ⟨⟨sg, ta, le, dr, so, us, rc, n, sn, S, rfl, hn, hsn, hM, rfl, rfl⟩, rfl⟩)) dX1_part_39
end
section
theorem sp_bt_eq {c a : Int32} (h : c = a) : sp_bt c a a := by
  subst h
  exact ⟨Int32.le_refl _, Int32.le_refl _⟩
theorem md_ns_no {c : Int32} (h0 : ¬ c = nI 58) (h1 : ¬ sp_bt c (nI 65) (nI 90)) (h2 : ¬ c = nI 95) (h3 : ¬ sp_bt c (nI 97) (nI 122)) (h4 : ¬ sp_bt c (nI 192) (nI 214)) (h5 : ¬ sp_bt c (nI 216) (nI 246)) (h6 : ¬ sp_bt c (nI 248) (nI 767)) (h7 : ¬ sp_bt c (nI 880) (nI 893)) (h8 : ¬ sp_bt c (nI 895) (nI 8191)) (h9 : ¬ c = nI 8204) (h9' : ¬ c = nI 8205) (h10 : ¬ sp_bt c (nI 8304) (nI 8591)) (h11 : ¬ sp_bt c (nI 11264) (nI 12271)) (h12 : ¬ sp_bt c (nI 12289) (nI 55295)) (h13 : ¬ sp_bt c (nI 63744) (nI 64975)) (h14 : ¬ sp_bt c (nI 65008) (nI 65533)) (h15 : ¬ sp_bt c (nI 65536) (nI 983039)) : sp_ns c = false := by
  apply sp_ns_not
  intro t ht
  rcases (show t = 0 ∨ t = 1 ∨ t = 2 ∨ t = 3 ∨ t = 4 ∨ t = 5 ∨ t = 6 ∨ t = 7 ∨ t = 8 ∨ t = 9 ∨ t = 10 ∨ t = 11 ∨ t = 12 ∨ t = 13 ∨ t = 14 ∨ t = 15 by omega) with rfl | rfl | rfl | rfl | rfl | rfl | rfl | rfl | rfl | rfl | rfl | rfl | rfl | rfl | rfl | rfl
  · exact sp_bt_one (a := 58) (by decide) h0
  · exact h1
  · exact sp_bt_one (a := 95) (by decide) h2
  · exact h3
  · exact h4
  · exact h5
  · exact h6
  · exact h7
  · exact h8
  · exact sp_bt_two (a := 8204) (by decide) h9 h9'
  · exact h10
  · exact h11
  · exact h12
  · exact h13
  · exact h14
  · exact h15
theorem sp_ix_spec {f : Nat → Int32} : ∀ (n a : Nat), (∀ i, i < sp_ix (sp_sl f a n) → f (a + i) ≠ nI 58) ∧ (sp_ix (sp_sl f a n) < n → f (a + sp_ix (sp_sl f a n)) = nI 58) := by
  intro n
  induction n with
  | zero => intro a; exact ⟨fun i h => absurd h (Nat.not_lt_zero i), fun h => absurd h (Nat.not_lt_zero _)⟩
  | succ n ih =>
    intro a
    rw [sp_cons, sp_ix]
    by_cases q : f a = nI 58
    · rw [if_pos q]
      exact ⟨fun i h => absurd h (Nat.not_lt_zero i), fun _ => q⟩
    · rw [if_neg q]
      have e1 : ∀ z c : Nat, c + (z + 1) = c + 1 + z := fun z c => by omega
      refine ⟨fun i hi => ?_, fun h => ?_⟩
      · cases i with
        | zero => exact q
        | succ i => rw [e1]; exact (ih (a + 1)).1 i (by omega)
      · rw [e1]; exact (ih (a + 1)).2 (by omega)
/-- what the reference has counted behind i characters -/
def md_ci (f : Nat → Int32) (a i mn la : Nat) : Prop := (mn = 0 ∧ la = 0 ∧ ∀ z, z < i → f (a + z) ≠ nI 58) ∨ (mn = 1 ∧ la < i ∧ f (a + la) = nI 58 ∧ ∀ z, z < i → z ≠ la → f (a + z) ≠ nI 58) ∨ (2 ≤ mn ∧ la < i ∧ ∃ u v, u < v ∧ v < i ∧ f (a + u) = nI 58 ∧ f (a + v) = nI 58)
theorem md_ci_no {f : Nat → Int32} {a i mn la : Nat} (h : md_ci f a i mn la) (q : ¬ f (a + i) = nI 58) : md_ci f a (i + 1) mn la := by
  rcases h with ⟨h1, h2, h3⟩ | ⟨h1, h2, h3, h4⟩ | ⟨h1, h2, u, v, h3, h4, h5, h6⟩
  · refine Or.inl ⟨h1, h2, fun z hz => ?_⟩
    rcases Nat.lt_or_ge z i with w | w
    · exact h3 z w
    · rw [show z = i by omega]; exact q
  · refine Or.inr (Or.inl ⟨h1, by omega, h3, fun z hz hn => ?_⟩)
    rcases Nat.lt_or_ge z i with w | w
    · exact h4 z w hn
    · rw [show z = i by omega]; exact q
  · exact Or.inr (Or.inr ⟨h1, by omega, u, v, h3, by omega, h5, h6⟩)
theorem md_ci_yes {f : Nat → Int32} {a i mn la : Nat} (h : md_ci f a i mn la) (q : f (a + i) = nI 58) : md_ci f a (i + 1) (mn + 1) i := by
  rcases h with ⟨h1, h2, h3⟩ | ⟨h1, h2, h3, h4⟩ | ⟨h1, h2, u, v, h3, h4, h5, h6⟩
  · refine Or.inr (Or.inl ⟨by omega, by omega, q, fun z hz hn => h3 z (by omega)⟩)
  · exact Or.inr (Or.inr ⟨by omega, by omega, la, i, h2, by omega, h3, q⟩)
  · exact Or.inr (Or.inr ⟨by omega, by omega, u, v, h3, by omega, h5, h6⟩)
section MC
variable {sg : Nat → Int32} {S : Nat → Nat} {k mn la n : Nat}
theorem md_co_0 (hn : S (k + 1) - S k = n) (h : md_ci sg (S k) n mn la) (h0 : mn = 0) : nI 0 = sp_colonR (cn_row sg S k) := by
  subst hn
  rcases h with ⟨h1, h2, h3⟩ | ⟨h1, -⟩ | ⟨h1, -⟩
  · exact cn_co_0 rfl (cn_ix _ _ _ (Nat.le_refl _) h3 (fun q => absurd q (Nat.lt_irrefl _)))
  · omega
  · omega
theorem md_co_2 (hn : S (k + 1) - S k = n) (h : md_ci sg (S k) n mn la) (h0 : ¬ mn = 0) (h1 : ¬ mn = 1) : (-1 : Int32) = sp_colonR (cn_row sg S k) := by
  subst hn
  rcases h with ⟨q, -⟩ | ⟨q, -⟩ | ⟨-, -, u, v, g1, g2, g3, g4⟩
  · omega
  · omega
  · have s1 := sp_ix_spec (f := sg) (S (k + 1) - S k) (S k)
    obtain ⟨P, eP⟩ : ∃ P, P = sp_ix (sp_sl sg (S k) (S (k + 1) - S k)) := ⟨_, rfl⟩
    rw [← eP] at s1
    have hPu : P ≤ u := by
      rcases Nat.lt_or_ge u P with w | w
      · exact absurd g3 (s1.1 u w)
      · exact w
    refine cn_co_no1 (P2 := sp_ix (sp_sl sg (S k + P + 1) (S (k + 1) - (S k + P + 1)))) eP rfl (by omega) ?_
    intro q
    have s2 := (sp_ix_spec (f := sg) (S (k + 1) - (S k + P + 1)) (S k + P + 1)).1 (v - (P + 1)) (by omega)
    rw [show S k + P + 1 + (v - (P + 1)) = S k + v by omega] at s2
    exact s2 g4
theorem md_co_P (hn : S (k + 1) - S k = n) (h : md_ci sg (S k) n mn la) (h1 : mn = 1) : la < n ∧ la = sp_ix (sp_sl sg (S k) (S (k + 1) - S k)) ∧ S (k + 1) - (S k + la + 1) = sp_ix (sp_sl sg (S k + la + 1) (S (k + 1) - (S k + la + 1))) := by
  subst hn
  rcases h with ⟨q, -⟩ | ⟨-, g1, g2, g3⟩ | ⟨q, -⟩
  · omega
  · refine ⟨g1, ?_, ?_⟩
    · exact (cn_ix _ _ _ (by omega) (fun i hi => g3 i (by omega) (by omega)) (fun _ => g2)).symm
    · refine (cn_ix _ _ _ (Nat.le_refl _) (fun i hi => ?_) (fun q => absurd q (Nat.lt_irrefl _))).symm
      rw [show S k + la + 1 + i = S k + (la + 1 + i) by omega]
      exact g3 _ (by omega) (by omega)
  · omega
theorem md_co_yes (hn : S (k + 1) - S k = n) (h : md_ci sg (S k) n mn la) (h1 : mn = 1) (h2 : 0 < la) (h3 : la + 1 < n) (hns : sp_ns (sg (S k + la + 1)) = true) : nI la = sp_colonR (cn_row sg S k) := by
  obtain ⟨g1, g2, g3⟩ := md_co_P hn h h1
  rw [← cn_co_yes g2 g3 (by omega) rfl h2 (by omega) hns]
  congr 1
  omega
theorem md_co_no (hn : S (k + 1) - S k = n) (h : md_ci sg (S k) n mn la) (h1 : mn = 1) (h2 : ¬ (0 < la ∧ la + 1 < n)) : (-1 : Int32) = sp_colonR (cn_row sg S k) := by
  obtain ⟨g1, g2, g3⟩ := md_co_P hn h h1
  exact cn_co_no2 g2 (by omega) (by omega)
theorem md_co_ns (hn : S (k + 1) - S k = n) (h : md_ci sg (S k) n mn la) (h1 : mn = 1) (h3 : la + 1 < n) (hns : sp_ns (sg (S k + la + 1)) = false) : (-1 : Int32) = sp_colonR (cn_row sg S k) := by
  obtain ⟨g1, g2, g3⟩ := md_co_P hn h h1
  exact cn_co_no3 g2 (by omega) hns
end MC
end
section
set_option maxHeartbeats 4000000 in
set_option maxRecDepth 100000 in
/-- isIn -/
theorem km_isIn (l : Launch) (D : va_G) {tys : List (ClassId × FieldType)} (ws : va_W) (q a b : Int32) : Met l yX1_isIn wsX1_isIn ({ frames := 0, cells := 0, slots := 0, locals := 0 }) (pu_Pc D vwCl (ws) tys [.int q, .int a, .int b]) (vp_Si (fun r => (r = nI 1 ∧ sp_bt q a b) ∨ (r = nI 0 ∧ ¬ sp_bt q a b))) 0 0 (fun _ => False) := by
  refine pu_of (cc := cX1_isIn) (maxL := 3) (ret := some .boolean) (own := RX1) (by decide) rfl rfl (Nat.le_of_ble_eq_true rfl) ?_
  intro p e s m below meth c hx hb hr hts hown hlocks hml hP hK ls hl
  have hl : lv_has ls 3 [(0, .int q), (1, .int a), (2, .int b)] := hl
  refine lv_iload_n hx hb dX1_isIn_0 rfl (lv_at hl 0 rfl) ?_
  refine lv_iload_n hx hb dX1_isIn_1 rfl (lv_at hl 1 rfl) ?_
  refine lv_icmp_lt (tgt := 14) hx hb dX1_isIn_2 (by decide) (fun c_2 => ?_) (fun c_2 => ?_)
  · refine lv_iconst (v := nI 0) hx hb dX1_isIn_14 (by decide) ?_
    exact pu_zret hx hb hr hlocks (by decide) (Or.inr ⟨rfl, by first | exact (fun z => absurd c_2 (Int32.not_lt.mpr z.1)) | exact (fun z => absurd c_7 (Int32.not_lt.mpr z.2))⟩) dX1_isIn_15
  · refine lv_iload_n hx hb dX1_isIn_5 rfl (lv_at hl 0 rfl) ?_
    refine lv_iload_n hx hb dX1_isIn_6 rfl (lv_at hl 2 rfl) ?_
    refine lv_icmp_gt (tgt := 14) hx hb dX1_isIn_7 (by decide) (fun c_7 => ?_) (fun c_7 => ?_)
    · refine lv_iconst (v := nI 0) hx hb dX1_isIn_14 (by decide) ?_
      exact pu_zret hx hb hr hlocks (by decide) (Or.inr ⟨rfl, by first | exact (fun z => absurd c_2 (Int32.not_lt.mpr z.1)) | exact (fun z => absurd c_7 (Int32.not_lt.mpr z.2))⟩) dX1_isIn_15
    · refine lv_iconst (v := nI 1) hx hb dX1_isIn_10 (by decide) ?_
      refine lv_goto (tgt := 15) hx hb dX1_isIn_11 (by decide) ?_
      exact pu_zret hx hb hr hlocks (by decide) (Or.inl ⟨rfl, Int32.not_lt.mp c_2, Int32.not_lt.mp c_7⟩) dX1_isIn_15
set_option maxHeartbeats 4000000 in
set_option maxRecDepth 100000 in
/-- isStart -/
theorem km_isStart (l : Launch) (D : va_G) {tys : List (ClassId × FieldType)} (ws : va_W) (q : Int32) : Met l yX1_isStart wsX1_isStart ({ frames := 1, cells := 0, slots := 0, locals := 24 }) (pu_Pc D vwCl (ws) tys [.int q]) (vp_Si (fun r => (r = nI 1 ∧ sp_ns q = true) ∨ (r = nI 0 ∧ sp_ns q = false))) 0 0 (fun _ => False) := by
  refine pu_of (cc := cX1_isStart) (maxL := 2) (ret := some .boolean) (own := RX1) (by decide) rfl rfl (Nat.le_of_ble_eq_true rfl) ?_
  intro p e s m below meth c hx hb hr hts hown hlocks hml hP hK ls hl
  have hl : lv_has ls 2 [(0, .int q)] := hl
  refine lv_iload_n hx hb dX1_isStart_0 rfl (lv_at hl 0 rfl) ?_
  refine lv_bipush (v := nI 65) hx hb dX1_isStart_1 (by decide) ?_
  refine lv_bipush (v := nI 90) hx hb dX1_isStart_3 (by decide) ?_
  refine vp_callSi (W.runS (As := [.int q, .int (nI 65), .int (nI 90)]) (rest := []) ⟨hx, hb, hml, hown, hts⟩ (km_isIn l D ws q (nI 65) (nI 90)) (va_cwS 3 hts gX1_isStart_X1_isIn rfl rfl rfl (by decide +kernel) ⟨Nat.le_of_ble_eq_true rfl, Nat.le_of_ble_eq_true rfl⟩) (pu_preS hK hP) rfl rfl hl.1 rfl (lv_room (Nat.le_of_ble_eq_true rfl)) dX1_isStart_5 ⟨Nat.zero_le _, Nat.zero_le _⟩) (fun r5 er5 => ?_)
  rcases er5 with ⟨er5, h_5⟩ | ⟨er5, h_5⟩
  · subst er5
    refine lv_if_ne (tgt := 99) hx hb dX1_isStart_8 (by decide) (fun c_8 => ?_) (fun c_8 => absurd c_8 (by decide))
    refine lv_iconst (v := nI 1) hx hb dX1_isStart_99 (by decide) ?_
    refine lv_goto (tgt := 104) hx hb dX1_isStart_100 (by decide) ?_
    refine lv_istore_n (lv' := [(1, .int (nI 1)), (0, .int q)]) hx hb dX1_isStart_104 rfl hl (by decide) rfl (fun ls hl => ?_)
    refine lv_iload_n hx hb dX1_isStart_105 rfl (lv_at hl 0 rfl) ?_
    refine lv_if_ne (tgt := 194) hx hb dX1_isStart_106 (by decide) (fun c_106 => ?_) (fun c_106 => absurd c_106 (by decide))
    refine lv_iconst (v := nI 1) hx hb dX1_isStart_194 (by decide) ?_
    refine lv_goto (tgt := 199) hx hb dX1_isStart_195 (by decide) ?_
    exact pu_zret hx hb hr hlocks (by decide) (Or.inl ⟨rfl, by first | exact sp_ns_of 1 (by decide) h_5 (by decide) (by decide) | exact sp_ns_of 3 (by decide) h_16 (by decide) (by decide) | exact sp_ns_of 4 (by decide) h_41 (by decide) (by decide) | exact sp_ns_of 5 (by decide) h_54 (by decide) (by decide) | exact sp_ns_of 6 (by decide) h_67 (by decide) (by decide) | exact sp_ns_of 7 (by decide) h_80 (by decide) (by decide) | exact sp_ns_of 8 (by decide) h_93 (by decide) (by decide) | exact sp_ns_of 10 (by decide) h_130 (by decide) (by decide) | exact sp_ns_of 11 (by decide) h_143 (by decide) (by decide) | exact sp_ns_of 12 (by decide) h_155 (by decide) (by decide) | exact sp_ns_of 13 (by decide) h_166 (by decide) (by decide) | exact sp_ns_of 14 (by decide) h_177 (by decide) (by decide) | exact sp_ns_of 15 (by decide) h_188 (by decide) (by decide) | exact sp_ns_of 0 (by decide) (sp_bt_eq c_25) (by decide) (by decide) | exact sp_ns_of 2 (by decide) (sp_bt_eq c_31) (by decide) (by decide) | exact sp_ns_of 9 (by decide) (sp_bt_eq c_113) (by decide) (by decide) | exact sp_ns_of 9 (by decide) (sp_bt_eq c_120) (by decide) (by decide)⟩) dX1_isStart_199
  · subst er5
    refine lv_if_ne (tgt := 99) hx hb dX1_isStart_8 (by decide) (fun c_8 => absurd c_8 (not_not_intro (by decide))) (fun c_8 => ?_)
    refine lv_iload_n hx hb dX1_isStart_11 rfl (lv_at hl 0 rfl) ?_
    refine lv_bipush (v := nI 97) hx hb dX1_isStart_12 (by decide) ?_
    refine lv_bipush (v := nI 122) hx hb dX1_isStart_14 (by decide) ?_
    refine vp_callSi (W.runS (As := [.int q, .int (nI 97), .int (nI 122)]) (rest := []) ⟨hx, hb, hml, hown, hts⟩ (km_isIn l D ws q (nI 97) (nI 122)) (va_cwS 3 hts gX1_isStart_X1_isIn rfl rfl rfl (by decide +kernel) ⟨Nat.le_of_ble_eq_true rfl, Nat.le_of_ble_eq_true rfl⟩) (pu_preS hK hP) rfl rfl hl.1 rfl (lv_room (Nat.le_of_ble_eq_true rfl)) dX1_isStart_16 ⟨Nat.zero_le _, Nat.zero_le _⟩) (fun r16 er16 => ?_)
    rcases er16 with ⟨er16, h_16⟩ | ⟨er16, h_16⟩
    · subst er16
      refine lv_if_ne (tgt := 99) hx hb dX1_isStart_19 (by decide) (fun c_19 => ?_) (fun c_19 => absurd c_19 (by decide))
      refine lv_iconst (v := nI 1) hx hb dX1_isStart_99 (by decide) ?_
      refine lv_goto (tgt := 104) hx hb dX1_isStart_100 (by decide) ?_
      refine lv_istore_n (lv' := [(1, .int (nI 1)), (0, .int q)]) hx hb dX1_isStart_104 rfl hl (by decide) rfl (fun ls hl => ?_)
      refine lv_iload_n hx hb dX1_isStart_105 rfl (lv_at hl 0 rfl) ?_
      refine lv_if_ne (tgt := 194) hx hb dX1_isStart_106 (by decide) (fun c_106 => ?_) (fun c_106 => absurd c_106 (by decide))
      refine lv_iconst (v := nI 1) hx hb dX1_isStart_194 (by decide) ?_
      refine lv_goto (tgt := 199) hx hb dX1_isStart_195 (by decide) ?_
      exact pu_zret hx hb hr hlocks (by decide) (Or.inl ⟨rfl, by first | exact sp_ns_of 1 (by decide) h_5 (by decide) (by decide) | exact sp_ns_of 3 (by decide) h_16 (by decide) (by decide) | exact sp_ns_of 4 (by decide) h_41 (by decide) (by decide) | exact sp_ns_of 5 (by decide) h_54 (by decide) (by decide) | exact sp_ns_of 6 (by decide) h_67 (by decide) (by decide) | exact sp_ns_of 7 (by decide) h_80 (by decide) (by decide) | exact sp_ns_of 8 (by decide) h_93 (by decide) (by decide) | exact sp_ns_of 10 (by decide) h_130 (by decide) (by decide) | exact sp_ns_of 11 (by decide) h_143 (by decide) (by decide) | exact sp_ns_of 12 (by decide) h_155 (by decide) (by decide) | exact sp_ns_of 13 (by decide) h_166 (by decide) (by decide) | exact sp_ns_of 14 (by decide) h_177 (by decide) (by decide) | exact sp_ns_of 15 (by decide) h_188 (by decide) (by decide) | exact sp_ns_of 0 (by decide) (sp_bt_eq c_25) (by decide) (by decide) | exact sp_ns_of 2 (by decide) (sp_bt_eq c_31) (by decide) (by decide) | exact sp_ns_of 9 (by decide) (sp_bt_eq c_113) (by decide) (by decide) | exact sp_ns_of 9 (by decide) (sp_bt_eq c_120) (by decide) (by decide)⟩) dX1_isStart_199
    · subst er16
      refine lv_if_ne (tgt := 99) hx hb dX1_isStart_19 (by decide) (fun c_19 => absurd c_19 (not_not_intro (by decide))) (fun c_19 => ?_)
      refine lv_iload_n hx hb dX1_isStart_22 rfl (lv_at hl 0 rfl) ?_
      refine lv_bipush (v := nI 58) hx hb dX1_isStart_23 (by decide) ?_
      refine lv_icmp_eq (tgt := 99) hx hb dX1_isStart_25 (by decide) (fun c_25 => ?_) (fun c_25 => ?_)
      · refine lv_iconst (v := nI 1) hx hb dX1_isStart_99 (by decide) ?_
        refine lv_goto (tgt := 104) hx hb dX1_isStart_100 (by decide) ?_
        refine lv_istore_n (lv' := [(1, .int (nI 1)), (0, .int q)]) hx hb dX1_isStart_104 rfl hl (by decide) rfl (fun ls hl => ?_)
        refine lv_iload_n hx hb dX1_isStart_105 rfl (lv_at hl 0 rfl) ?_
        refine lv_if_ne (tgt := 194) hx hb dX1_isStart_106 (by decide) (fun c_106 => ?_) (fun c_106 => absurd c_106 (by decide))
        refine lv_iconst (v := nI 1) hx hb dX1_isStart_194 (by decide) ?_
        refine lv_goto (tgt := 199) hx hb dX1_isStart_195 (by decide) ?_
        exact pu_zret hx hb hr hlocks (by decide) (Or.inl ⟨rfl, by first | exact sp_ns_of 1 (by decide) h_5 (by decide) (by decide) | exact sp_ns_of 3 (by decide) h_16 (by decide) (by decide) | exact sp_ns_of 4 (by decide) h_41 (by decide) (by decide) | exact sp_ns_of 5 (by decide) h_54 (by decide) (by decide) | exact sp_ns_of 6 (by decide) h_67 (by decide) (by decide) | exact sp_ns_of 7 (by decide) h_80 (by decide) (by decide) | exact sp_ns_of 8 (by decide) h_93 (by decide) (by decide) | exact sp_ns_of 10 (by decide) h_130 (by decide) (by decide) | exact sp_ns_of 11 (by decide) h_143 (by decide) (by decide) | exact sp_ns_of 12 (by decide) h_155 (by decide) (by decide) | exact sp_ns_of 13 (by decide) h_166 (by decide) (by decide) | exact sp_ns_of 14 (by decide) h_177 (by decide) (by decide) | exact sp_ns_of 15 (by decide) h_188 (by decide) (by decide) | exact sp_ns_of 0 (by decide) (sp_bt_eq c_25) (by decide) (by decide) | exact sp_ns_of 2 (by decide) (sp_bt_eq c_31) (by decide) (by decide) | exact sp_ns_of 9 (by decide) (sp_bt_eq c_113) (by decide) (by decide) | exact sp_ns_of 9 (by decide) (sp_bt_eq c_120) (by decide) (by decide)⟩) dX1_isStart_199
      · refine lv_iload_n hx hb dX1_isStart_28 rfl (lv_at hl 0 rfl) ?_
        refine lv_bipush (v := nI 95) hx hb dX1_isStart_29 (by decide) ?_
        refine lv_icmp_eq (tgt := 99) hx hb dX1_isStart_31 (by decide) (fun c_31 => ?_) (fun c_31 => ?_)
        · refine lv_iconst (v := nI 1) hx hb dX1_isStart_99 (by decide) ?_
          refine lv_goto (tgt := 104) hx hb dX1_isStart_100 (by decide) ?_
          refine lv_istore_n (lv' := [(1, .int (nI 1)), (0, .int q)]) hx hb dX1_isStart_104 rfl hl (by decide) rfl (fun ls hl => ?_)
          refine lv_iload_n hx hb dX1_isStart_105 rfl (lv_at hl 0 rfl) ?_
          refine lv_if_ne (tgt := 194) hx hb dX1_isStart_106 (by decide) (fun c_106 => ?_) (fun c_106 => absurd c_106 (by decide))
          refine lv_iconst (v := nI 1) hx hb dX1_isStart_194 (by decide) ?_
          refine lv_goto (tgt := 199) hx hb dX1_isStart_195 (by decide) ?_
          exact pu_zret hx hb hr hlocks (by decide) (Or.inl ⟨rfl, by first | exact sp_ns_of 1 (by decide) h_5 (by decide) (by decide) | exact sp_ns_of 3 (by decide) h_16 (by decide) (by decide) | exact sp_ns_of 4 (by decide) h_41 (by decide) (by decide) | exact sp_ns_of 5 (by decide) h_54 (by decide) (by decide) | exact sp_ns_of 6 (by decide) h_67 (by decide) (by decide) | exact sp_ns_of 7 (by decide) h_80 (by decide) (by decide) | exact sp_ns_of 8 (by decide) h_93 (by decide) (by decide) | exact sp_ns_of 10 (by decide) h_130 (by decide) (by decide) | exact sp_ns_of 11 (by decide) h_143 (by decide) (by decide) | exact sp_ns_of 12 (by decide) h_155 (by decide) (by decide) | exact sp_ns_of 13 (by decide) h_166 (by decide) (by decide) | exact sp_ns_of 14 (by decide) h_177 (by decide) (by decide) | exact sp_ns_of 15 (by decide) h_188 (by decide) (by decide) | exact sp_ns_of 0 (by decide) (sp_bt_eq c_25) (by decide) (by decide) | exact sp_ns_of 2 (by decide) (sp_bt_eq c_31) (by decide) (by decide) | exact sp_ns_of 9 (by decide) (sp_bt_eq c_113) (by decide) (by decide) | exact sp_ns_of 9 (by decide) (sp_bt_eq c_120) (by decide) (by decide)⟩) dX1_isStart_199
        · refine lv_iload_n hx hb dX1_isStart_34 rfl (lv_at hl 0 rfl) ?_
          refine lv_sipush (v := nI 192) hx hb dX1_isStart_35 (by decide) ?_
          refine lv_sipush (v := nI 214) hx hb dX1_isStart_38 (by decide) ?_
          refine vp_callSi (W.runS (As := [.int q, .int (nI 192), .int (nI 214)]) (rest := []) ⟨hx, hb, hml, hown, hts⟩ (km_isIn l D ws q (nI 192) (nI 214)) (va_cwS 3 hts gX1_isStart_X1_isIn rfl rfl rfl (by decide +kernel) ⟨Nat.le_of_ble_eq_true rfl, Nat.le_of_ble_eq_true rfl⟩) (pu_preS hK hP) rfl rfl hl.1 rfl (lv_room (Nat.le_of_ble_eq_true rfl)) dX1_isStart_41 ⟨Nat.zero_le _, Nat.zero_le _⟩) (fun r41 er41 => ?_)
          rcases er41 with ⟨er41, h_41⟩ | ⟨er41, h_41⟩
          · subst er41
            refine lv_if_ne (tgt := 99) hx hb dX1_isStart_44 (by decide) (fun c_44 => ?_) (fun c_44 => absurd c_44 (by decide))
            refine lv_iconst (v := nI 1) hx hb dX1_isStart_99 (by decide) ?_
            refine lv_goto (tgt := 104) hx hb dX1_isStart_100 (by decide) ?_
            refine lv_istore_n (lv' := [(1, .int (nI 1)), (0, .int q)]) hx hb dX1_isStart_104 rfl hl (by decide) rfl (fun ls hl => ?_)
            refine lv_iload_n hx hb dX1_isStart_105 rfl (lv_at hl 0 rfl) ?_
            refine lv_if_ne (tgt := 194) hx hb dX1_isStart_106 (by decide) (fun c_106 => ?_) (fun c_106 => absurd c_106 (by decide))
            refine lv_iconst (v := nI 1) hx hb dX1_isStart_194 (by decide) ?_
            refine lv_goto (tgt := 199) hx hb dX1_isStart_195 (by decide) ?_
            exact pu_zret hx hb hr hlocks (by decide) (Or.inl ⟨rfl, by first | exact sp_ns_of 1 (by decide) h_5 (by decide) (by decide) | exact sp_ns_of 3 (by decide) h_16 (by decide) (by decide) | exact sp_ns_of 4 (by decide) h_41 (by decide) (by decide) | exact sp_ns_of 5 (by decide) h_54 (by decide) (by decide) | exact sp_ns_of 6 (by decide) h_67 (by decide) (by decide) | exact sp_ns_of 7 (by decide) h_80 (by decide) (by decide) | exact sp_ns_of 8 (by decide) h_93 (by decide) (by decide) | exact sp_ns_of 10 (by decide) h_130 (by decide) (by decide) | exact sp_ns_of 11 (by decide) h_143 (by decide) (by decide) | exact sp_ns_of 12 (by decide) h_155 (by decide) (by decide) | exact sp_ns_of 13 (by decide) h_166 (by decide) (by decide) | exact sp_ns_of 14 (by decide) h_177 (by decide) (by decide) | exact sp_ns_of 15 (by decide) h_188 (by decide) (by decide) | exact sp_ns_of 0 (by decide) (sp_bt_eq c_25) (by decide) (by decide) | exact sp_ns_of 2 (by decide) (sp_bt_eq c_31) (by decide) (by decide) | exact sp_ns_of 9 (by decide) (sp_bt_eq c_113) (by decide) (by decide) | exact sp_ns_of 9 (by decide) (sp_bt_eq c_120) (by decide) (by decide)⟩) dX1_isStart_199
          · subst er41
            refine lv_if_ne (tgt := 99) hx hb dX1_isStart_44 (by decide) (fun c_44 => absurd c_44 (not_not_intro (by decide))) (fun c_44 => ?_)
            refine lv_iload_n hx hb dX1_isStart_47 rfl (lv_at hl 0 rfl) ?_
            refine lv_sipush (v := nI 216) hx hb dX1_isStart_48 (by decide) ?_
            refine lv_sipush (v := nI 246) hx hb dX1_isStart_51 (by decide) ?_
            refine vp_callSi (W.runS (As := [.int q, .int (nI 216), .int (nI 246)]) (rest := []) ⟨hx, hb, hml, hown, hts⟩ (km_isIn l D ws q (nI 216) (nI 246)) (va_cwS 3 hts gX1_isStart_X1_isIn rfl rfl rfl (by decide +kernel) ⟨Nat.le_of_ble_eq_true rfl, Nat.le_of_ble_eq_true rfl⟩) (pu_preS hK hP) rfl rfl hl.1 rfl (lv_room (Nat.le_of_ble_eq_true rfl)) dX1_isStart_54 ⟨Nat.zero_le _, Nat.zero_le _⟩) (fun r54 er54 => ?_)
            rcases er54 with ⟨er54, h_54⟩ | ⟨er54, h_54⟩
            · subst er54
              refine lv_if_ne (tgt := 99) hx hb dX1_isStart_57 (by decide) (fun c_57 => ?_) (fun c_57 => absurd c_57 (by decide))
              refine lv_iconst (v := nI 1) hx hb dX1_isStart_99 (by decide) ?_
              refine lv_goto (tgt := 104) hx hb dX1_isStart_100 (by decide) ?_
              refine lv_istore_n (lv' := [(1, .int (nI 1)), (0, .int q)]) hx hb dX1_isStart_104 rfl hl (by decide) rfl (fun ls hl => ?_)
              refine lv_iload_n hx hb dX1_isStart_105 rfl (lv_at hl 0 rfl) ?_
              refine lv_if_ne (tgt := 194) hx hb dX1_isStart_106 (by decide) (fun c_106 => ?_) (fun c_106 => absurd c_106 (by decide))
              refine lv_iconst (v := nI 1) hx hb dX1_isStart_194 (by decide) ?_
              refine lv_goto (tgt := 199) hx hb dX1_isStart_195 (by decide) ?_
              exact pu_zret hx hb hr hlocks (by decide) (Or.inl ⟨rfl, by first | exact sp_ns_of 1 (by decide) h_5 (by decide) (by decide) | exact sp_ns_of 3 (by decide) h_16 (by decide) (by decide) | exact sp_ns_of 4 (by decide) h_41 (by decide) (by decide) | exact sp_ns_of 5 (by decide) h_54 (by decide) (by decide) | exact sp_ns_of 6 (by decide) h_67 (by decide) (by decide) | exact sp_ns_of 7 (by decide) h_80 (by decide) (by decide) | exact sp_ns_of 8 (by decide) h_93 (by decide) (by decide) | exact sp_ns_of 10 (by decide) h_130 (by decide) (by decide) | exact sp_ns_of 11 (by decide) h_143 (by decide) (by decide) | exact sp_ns_of 12 (by decide) h_155 (by decide) (by decide) | exact sp_ns_of 13 (by decide) h_166 (by decide) (by decide) | exact sp_ns_of 14 (by decide) h_177 (by decide) (by decide) | exact sp_ns_of 15 (by decide) h_188 (by decide) (by decide) | exact sp_ns_of 0 (by decide) (sp_bt_eq c_25) (by decide) (by decide) | exact sp_ns_of 2 (by decide) (sp_bt_eq c_31) (by decide) (by decide) | exact sp_ns_of 9 (by decide) (sp_bt_eq c_113) (by decide) (by decide) | exact sp_ns_of 9 (by decide) (sp_bt_eq c_120) (by decide) (by decide)⟩) dX1_isStart_199
            · subst er54
              refine lv_if_ne (tgt := 99) hx hb dX1_isStart_57 (by decide) (fun c_57 => absurd c_57 (not_not_intro (by decide))) (fun c_57 => ?_)
              refine lv_iload_n hx hb dX1_isStart_60 rfl (lv_at hl 0 rfl) ?_
              refine lv_sipush (v := nI 248) hx hb dX1_isStart_61 (by decide) ?_
              refine lv_sipush (v := nI 767) hx hb dX1_isStart_64 (by decide) ?_
              refine vp_callSi (W.runS (As := [.int q, .int (nI 248), .int (nI 767)]) (rest := []) ⟨hx, hb, hml, hown, hts⟩ (km_isIn l D ws q (nI 248) (nI 767)) (va_cwS 3 hts gX1_isStart_X1_isIn rfl rfl rfl (by decide +kernel) ⟨Nat.le_of_ble_eq_true rfl, Nat.le_of_ble_eq_true rfl⟩) (pu_preS hK hP) rfl rfl hl.1 rfl (lv_room (Nat.le_of_ble_eq_true rfl)) dX1_isStart_67 ⟨Nat.zero_le _, Nat.zero_le _⟩) (fun r67 er67 => ?_)
              rcases er67 with ⟨er67, h_67⟩ | ⟨er67, h_67⟩
              · subst er67
                refine lv_if_ne (tgt := 99) hx hb dX1_isStart_70 (by decide) (fun c_70 => ?_) (fun c_70 => absurd c_70 (by decide))
                refine lv_iconst (v := nI 1) hx hb dX1_isStart_99 (by decide) ?_
                refine lv_goto (tgt := 104) hx hb dX1_isStart_100 (by decide) ?_
                refine lv_istore_n (lv' := [(1, .int (nI 1)), (0, .int q)]) hx hb dX1_isStart_104 rfl hl (by decide) rfl (fun ls hl => ?_)
                refine lv_iload_n hx hb dX1_isStart_105 rfl (lv_at hl 0 rfl) ?_
                refine lv_if_ne (tgt := 194) hx hb dX1_isStart_106 (by decide) (fun c_106 => ?_) (fun c_106 => absurd c_106 (by decide))
                refine lv_iconst (v := nI 1) hx hb dX1_isStart_194 (by decide) ?_
                refine lv_goto (tgt := 199) hx hb dX1_isStart_195 (by decide) ?_
                exact pu_zret hx hb hr hlocks (by decide) (Or.inl ⟨rfl, by first | exact sp_ns_of 1 (by decide) h_5 (by decide) (by decide) | exact sp_ns_of 3 (by decide) h_16 (by decide) (by decide) | exact sp_ns_of 4 (by decide) h_41 (by decide) (by decide) | exact sp_ns_of 5 (by decide) h_54 (by decide) (by decide) | exact sp_ns_of 6 (by decide) h_67 (by decide) (by decide) | exact sp_ns_of 7 (by decide) h_80 (by decide) (by decide) | exact sp_ns_of 8 (by decide) h_93 (by decide) (by decide) | exact sp_ns_of 10 (by decide) h_130 (by decide) (by decide) | exact sp_ns_of 11 (by decide) h_143 (by decide) (by decide) | exact sp_ns_of 12 (by decide) h_155 (by decide) (by decide) | exact sp_ns_of 13 (by decide) h_166 (by decide) (by decide) | exact sp_ns_of 14 (by decide) h_177 (by decide) (by decide) | exact sp_ns_of 15 (by decide) h_188 (by decide) (by decide) | exact sp_ns_of 0 (by decide) (sp_bt_eq c_25) (by decide) (by decide) | exact sp_ns_of 2 (by decide) (sp_bt_eq c_31) (by decide) (by decide) | exact sp_ns_of 9 (by decide) (sp_bt_eq c_113) (by decide) (by decide) | exact sp_ns_of 9 (by decide) (sp_bt_eq c_120) (by decide) (by decide)⟩) dX1_isStart_199
              · subst er67
                refine lv_if_ne (tgt := 99) hx hb dX1_isStart_70 (by decide) (fun c_70 => absurd c_70 (not_not_intro (by decide))) (fun c_70 => ?_)
                refine lv_iload_n hx hb dX1_isStart_73 rfl (lv_at hl 0 rfl) ?_
                refine lv_sipush (v := nI 880) hx hb dX1_isStart_74 (by decide) ?_
                refine lv_sipush (v := nI 893) hx hb dX1_isStart_77 (by decide) ?_
                refine vp_callSi (W.runS (As := [.int q, .int (nI 880), .int (nI 893)]) (rest := []) ⟨hx, hb, hml, hown, hts⟩ (km_isIn l D ws q (nI 880) (nI 893)) (va_cwS 3 hts gX1_isStart_X1_isIn rfl rfl rfl (by decide +kernel) ⟨Nat.le_of_ble_eq_true rfl, Nat.le_of_ble_eq_true rfl⟩) (pu_preS hK hP) rfl rfl hl.1 rfl (lv_room (Nat.le_of_ble_eq_true rfl)) dX1_isStart_80 ⟨Nat.zero_le _, Nat.zero_le _⟩) (fun r80 er80 => ?_)
                rcases er80 with ⟨er80, h_80⟩ | ⟨er80, h_80⟩
                · subst er80
                  refine lv_if_ne (tgt := 99) hx hb dX1_isStart_83 (by decide) (fun c_83 => ?_) (fun c_83 => absurd c_83 (by decide))
                  refine lv_iconst (v := nI 1) hx hb dX1_isStart_99 (by decide) ?_
                  refine lv_goto (tgt := 104) hx hb dX1_isStart_100 (by decide) ?_
                  refine lv_istore_n (lv' := [(1, .int (nI 1)), (0, .int q)]) hx hb dX1_isStart_104 rfl hl (by decide) rfl (fun ls hl => ?_)
                  refine lv_iload_n hx hb dX1_isStart_105 rfl (lv_at hl 0 rfl) ?_
                  refine lv_if_ne (tgt := 194) hx hb dX1_isStart_106 (by decide) (fun c_106 => ?_) (fun c_106 => absurd c_106 (by decide))
                  refine lv_iconst (v := nI 1) hx hb dX1_isStart_194 (by decide) ?_
                  refine lv_goto (tgt := 199) hx hb dX1_isStart_195 (by decide) ?_
                  exact pu_zret hx hb hr hlocks (by decide) (Or.inl ⟨rfl, by first | exact sp_ns_of 1 (by decide) h_5 (by decide) (by decide) | exact sp_ns_of 3 (by decide) h_16 (by decide) (by decide) | exact sp_ns_of 4 (by decide) h_41 (by decide) (by decide) | exact sp_ns_of 5 (by decide) h_54 (by decide) (by decide) | exact sp_ns_of 6 (by decide) h_67 (by decide) (by decide) | exact sp_ns_of 7 (by decide) h_80 (by decide) (by decide) | exact sp_ns_of 8 (by decide) h_93 (by decide) (by decide) | exact sp_ns_of 10 (by decide) h_130 (by decide) (by decide) | exact sp_ns_of 11 (by decide) h_143 (by decide) (by decide) | exact sp_ns_of 12 (by decide) h_155 (by decide) (by decide) | exact sp_ns_of 13 (by decide) h_166 (by decide) (by decide) | exact sp_ns_of 14 (by decide) h_177 (by decide) (by decide) | exact sp_ns_of 15 (by decide) h_188 (by decide) (by decide) | exact sp_ns_of 0 (by decide) (sp_bt_eq c_25) (by decide) (by decide) | exact sp_ns_of 2 (by decide) (sp_bt_eq c_31) (by decide) (by decide) | exact sp_ns_of 9 (by decide) (sp_bt_eq c_113) (by decide) (by decide) | exact sp_ns_of 9 (by decide) (sp_bt_eq c_120) (by decide) (by decide)⟩) dX1_isStart_199
                · subst er80
                  refine lv_if_ne (tgt := 99) hx hb dX1_isStart_83 (by decide) (fun c_83 => absurd c_83 (not_not_intro (by decide))) (fun c_83 => ?_)
                  refine lv_iload_n hx hb dX1_isStart_86 rfl (lv_at hl 0 rfl) ?_
                  refine lv_sipush (v := nI 895) hx hb dX1_isStart_87 (by decide) ?_
                  refine lv_sipush (v := nI 8191) hx hb dX1_isStart_90 (by decide) ?_
                  refine vp_callSi (W.runS (As := [.int q, .int (nI 895), .int (nI 8191)]) (rest := []) ⟨hx, hb, hml, hown, hts⟩ (km_isIn l D ws q (nI 895) (nI 8191)) (va_cwS 3 hts gX1_isStart_X1_isIn rfl rfl rfl (by decide +kernel) ⟨Nat.le_of_ble_eq_true rfl, Nat.le_of_ble_eq_true rfl⟩) (pu_preS hK hP) rfl rfl hl.1 rfl (lv_room (Nat.le_of_ble_eq_true rfl)) dX1_isStart_93 ⟨Nat.zero_le _, Nat.zero_le _⟩) (fun r93 er93 => ?_)
                  rcases er93 with ⟨er93, h_93⟩ | ⟨er93, h_93⟩
                  · subst er93
                    refine lv_if_eq (tgt := 103) hx hb dX1_isStart_96 (by decide) (fun c_96 => absurd c_96 (by decide)) (fun c_96 => ?_)
                    refine lv_iconst (v := nI 1) hx hb dX1_isStart_99 (by decide) ?_
                    refine lv_goto (tgt := 104) hx hb dX1_isStart_100 (by decide) ?_
                    refine lv_istore_n (lv' := [(1, .int (nI 1)), (0, .int q)]) hx hb dX1_isStart_104 rfl hl (by decide) rfl (fun ls hl => ?_)
                    refine lv_iload_n hx hb dX1_isStart_105 rfl (lv_at hl 0 rfl) ?_
                    refine lv_if_ne (tgt := 194) hx hb dX1_isStart_106 (by decide) (fun c_106 => ?_) (fun c_106 => absurd c_106 (by decide))
                    refine lv_iconst (v := nI 1) hx hb dX1_isStart_194 (by decide) ?_
                    refine lv_goto (tgt := 199) hx hb dX1_isStart_195 (by decide) ?_
                    exact pu_zret hx hb hr hlocks (by decide) (Or.inl ⟨rfl, by first | exact sp_ns_of 1 (by decide) h_5 (by decide) (by decide) | exact sp_ns_of 3 (by decide) h_16 (by decide) (by decide) | exact sp_ns_of 4 (by decide) h_41 (by decide) (by decide) | exact sp_ns_of 5 (by decide) h_54 (by decide) (by decide) | exact sp_ns_of 6 (by decide) h_67 (by decide) (by decide) | exact sp_ns_of 7 (by decide) h_80 (by decide) (by decide) | exact sp_ns_of 8 (by decide) h_93 (by decide) (by decide) | exact sp_ns_of 10 (by decide) h_130 (by decide) (by decide) | exact sp_ns_of 11 (by decide) h_143 (by decide) (by decide) | exact sp_ns_of 12 (by decide) h_155 (by decide) (by decide) | exact sp_ns_of 13 (by decide) h_166 (by decide) (by decide) | exact sp_ns_of 14 (by decide) h_177 (by decide) (by decide) | exact sp_ns_of 15 (by decide) h_188 (by decide) (by decide) | exact sp_ns_of 0 (by decide) (sp_bt_eq c_25) (by decide) (by decide) | exact sp_ns_of 2 (by decide) (sp_bt_eq c_31) (by decide) (by decide) | exact sp_ns_of 9 (by decide) (sp_bt_eq c_113) (by decide) (by decide) | exact sp_ns_of 9 (by decide) (sp_bt_eq c_120) (by decide) (by decide)⟩) dX1_isStart_199
                  · subst er93
                    refine lv_if_eq (tgt := 103) hx hb dX1_isStart_96 (by decide) (fun c_96 => ?_) (fun c_96 => absurd c_96 (not_not_intro (by decide)))
                    refine lv_iconst (v := nI 0) hx hb dX1_isStart_103 (by decide) ?_
                    refine lv_istore_n (lv' := [(1, .int (nI 0)), (0, .int q)]) hx hb dX1_isStart_104 rfl hl (by decide) rfl (fun ls hl => ?_)
                    refine lv_iload_n hx hb dX1_isStart_105 rfl (lv_at hl 0 rfl) ?_
                    refine lv_if_ne (tgt := 194) hx hb dX1_isStart_106 (by decide) (fun c_106 => absurd c_106 (not_not_intro (by decide))) (fun c_106 => ?_)
                    refine lv_iload_n hx hb dX1_isStart_109 rfl (lv_at hl 1 rfl) ?_
                    refine lv_sipush (v := nI 8204) hx hb dX1_isStart_110 (by decide) ?_
                    refine lv_icmp_eq (tgt := 194) hx hb dX1_isStart_113 (by decide) (fun c_113 => ?_) (fun c_113 => ?_)
                    · refine lv_iconst (v := nI 1) hx hb dX1_isStart_194 (by decide) ?_
                      refine lv_goto (tgt := 199) hx hb dX1_isStart_195 (by decide) ?_
                      exact pu_zret hx hb hr hlocks (by decide) (Or.inl ⟨rfl, by first | exact sp_ns_of 1 (by decide) h_5 (by decide) (by decide) | exact sp_ns_of 3 (by decide) h_16 (by decide) (by decide) | exact sp_ns_of 4 (by decide) h_41 (by decide) (by decide) | exact sp_ns_of 5 (by decide) h_54 (by decide) (by decide) | exact sp_ns_of 6 (by decide) h_67 (by decide) (by decide) | exact sp_ns_of 7 (by decide) h_80 (by decide) (by decide) | exact sp_ns_of 8 (by decide) h_93 (by decide) (by decide) | exact sp_ns_of 10 (by decide) h_130 (by decide) (by decide) | exact sp_ns_of 11 (by decide) h_143 (by decide) (by decide) | exact sp_ns_of 12 (by decide) h_155 (by decide) (by decide) | exact sp_ns_of 13 (by decide) h_166 (by decide) (by decide) | exact sp_ns_of 14 (by decide) h_177 (by decide) (by decide) | exact sp_ns_of 15 (by decide) h_188 (by decide) (by decide) | exact sp_ns_of 0 (by decide) (sp_bt_eq c_25) (by decide) (by decide) | exact sp_ns_of 2 (by decide) (sp_bt_eq c_31) (by decide) (by decide) | exact sp_ns_of 9 (by decide) (sp_bt_eq c_113) (by decide) (by decide) | exact sp_ns_of 9 (by decide) (sp_bt_eq c_120) (by decide) (by decide)⟩) dX1_isStart_199
                    · refine lv_iload_n hx hb dX1_isStart_116 rfl (lv_at hl 1 rfl) ?_
                      refine lv_sipush (v := nI 8205) hx hb dX1_isStart_117 (by decide) ?_
                      refine lv_icmp_eq (tgt := 194) hx hb dX1_isStart_120 (by decide) (fun c_120 => ?_) (fun c_120 => ?_)
                      · refine lv_iconst (v := nI 1) hx hb dX1_isStart_194 (by decide) ?_
                        refine lv_goto (tgt := 199) hx hb dX1_isStart_195 (by decide) ?_
                        exact pu_zret hx hb hr hlocks (by decide) (Or.inl ⟨rfl, by first | exact sp_ns_of 1 (by decide) h_5 (by decide) (by decide) | exact sp_ns_of 3 (by decide) h_16 (by decide) (by decide) | exact sp_ns_of 4 (by decide) h_41 (by decide) (by decide) | exact sp_ns_of 5 (by decide) h_54 (by decide) (by decide) | exact sp_ns_of 6 (by decide) h_67 (by decide) (by decide) | exact sp_ns_of 7 (by decide) h_80 (by decide) (by decide) | exact sp_ns_of 8 (by decide) h_93 (by decide) (by decide) | exact sp_ns_of 10 (by decide) h_130 (by decide) (by decide) | exact sp_ns_of 11 (by decide) h_143 (by decide) (by decide) | exact sp_ns_of 12 (by decide) h_155 (by decide) (by decide) | exact sp_ns_of 13 (by decide) h_166 (by decide) (by decide) | exact sp_ns_of 14 (by decide) h_177 (by decide) (by decide) | exact sp_ns_of 15 (by decide) h_188 (by decide) (by decide) | exact sp_ns_of 0 (by decide) (sp_bt_eq c_25) (by decide) (by decide) | exact sp_ns_of 2 (by decide) (sp_bt_eq c_31) (by decide) (by decide) | exact sp_ns_of 9 (by decide) (sp_bt_eq c_113) (by decide) (by decide) | exact sp_ns_of 9 (by decide) (sp_bt_eq c_120) (by decide) (by decide)⟩) dX1_isStart_199
                      · refine lv_iload_n hx hb dX1_isStart_123 rfl (lv_at hl 1 rfl) ?_
                        refine lv_sipush (v := nI 8304) hx hb dX1_isStart_124 (by decide) ?_
                        refine lv_sipush (v := nI 8591) hx hb dX1_isStart_127 (by decide) ?_
                        refine vp_callSi (W.runS (As := [.int q, .int (nI 8304), .int (nI 8591)]) (rest := []) ⟨hx, hb, hml, hown, hts⟩ (km_isIn l D ws q (nI 8304) (nI 8591)) (va_cwS 3 hts gX1_isStart_X1_isIn rfl rfl rfl (by decide +kernel) ⟨Nat.le_of_ble_eq_true rfl, Nat.le_of_ble_eq_true rfl⟩) (pu_preS hK hP) rfl rfl hl.1 rfl (lv_room (Nat.le_of_ble_eq_true rfl)) dX1_isStart_130 ⟨Nat.zero_le _, Nat.zero_le _⟩) (fun r130 er130 => ?_)
                        rcases er130 with ⟨er130, h_130⟩ | ⟨er130, h_130⟩
                        · subst er130
                          refine lv_if_ne (tgt := 194) hx hb dX1_isStart_133 (by decide) (fun c_133 => ?_) (fun c_133 => absurd c_133 (by decide))
                          refine lv_iconst (v := nI 1) hx hb dX1_isStart_194 (by decide) ?_
                          refine lv_goto (tgt := 199) hx hb dX1_isStart_195 (by decide) ?_
                          exact pu_zret hx hb hr hlocks (by decide) (Or.inl ⟨rfl, by first | exact sp_ns_of 1 (by decide) h_5 (by decide) (by decide) | exact sp_ns_of 3 (by decide) h_16 (by decide) (by decide) | exact sp_ns_of 4 (by decide) h_41 (by decide) (by decide) | exact sp_ns_of 5 (by decide) h_54 (by decide) (by decide) | exact sp_ns_of 6 (by decide) h_67 (by decide) (by decide) | exact sp_ns_of 7 (by decide) h_80 (by decide) (by decide) | exact sp_ns_of 8 (by decide) h_93 (by decide) (by decide) | exact sp_ns_of 10 (by decide) h_130 (by decide) (by decide) | exact sp_ns_of 11 (by decide) h_143 (by decide) (by decide) | exact sp_ns_of 12 (by decide) h_155 (by decide) (by decide) | exact sp_ns_of 13 (by decide) h_166 (by decide) (by decide) | exact sp_ns_of 14 (by decide) h_177 (by decide) (by decide) | exact sp_ns_of 15 (by decide) h_188 (by decide) (by decide) | exact sp_ns_of 0 (by decide) (sp_bt_eq c_25) (by decide) (by decide) | exact sp_ns_of 2 (by decide) (sp_bt_eq c_31) (by decide) (by decide) | exact sp_ns_of 9 (by decide) (sp_bt_eq c_113) (by decide) (by decide) | exact sp_ns_of 9 (by decide) (sp_bt_eq c_120) (by decide) (by decide)⟩) dX1_isStart_199
                        · subst er130
                          refine lv_if_ne (tgt := 194) hx hb dX1_isStart_133 (by decide) (fun c_133 => absurd c_133 (not_not_intro (by decide))) (fun c_133 => ?_)
                          refine lv_iload_n hx hb dX1_isStart_136 rfl (lv_at hl 1 rfl) ?_
                          refine lv_sipush (v := nI 11264) hx hb dX1_isStart_137 (by decide) ?_
                          refine lv_sipush (v := nI 12271) hx hb dX1_isStart_140 (by decide) ?_
                          refine vp_callSi (W.runS (As := [.int q, .int (nI 11264), .int (nI 12271)]) (rest := []) ⟨hx, hb, hml, hown, hts⟩ (km_isIn l D ws q (nI 11264) (nI 12271)) (va_cwS 3 hts gX1_isStart_X1_isIn rfl rfl rfl (by decide +kernel) ⟨Nat.le_of_ble_eq_true rfl, Nat.le_of_ble_eq_true rfl⟩) (pu_preS hK hP) rfl rfl hl.1 rfl (lv_room (Nat.le_of_ble_eq_true rfl)) dX1_isStart_143 ⟨Nat.zero_le _, Nat.zero_le _⟩) (fun r143 er143 => ?_)
                          rcases er143 with ⟨er143, h_143⟩ | ⟨er143, h_143⟩
                          · subst er143
                            refine lv_if_ne (tgt := 194) hx hb dX1_isStart_146 (by decide) (fun c_146 => ?_) (fun c_146 => absurd c_146 (by decide))
                            refine lv_iconst (v := nI 1) hx hb dX1_isStart_194 (by decide) ?_
                            refine lv_goto (tgt := 199) hx hb dX1_isStart_195 (by decide) ?_
                            exact pu_zret hx hb hr hlocks (by decide) (Or.inl ⟨rfl, by first | exact sp_ns_of 1 (by decide) h_5 (by decide) (by decide) | exact sp_ns_of 3 (by decide) h_16 (by decide) (by decide) | exact sp_ns_of 4 (by decide) h_41 (by decide) (by decide) | exact sp_ns_of 5 (by decide) h_54 (by decide) (by decide) | exact sp_ns_of 6 (by decide) h_67 (by decide) (by decide) | exact sp_ns_of 7 (by decide) h_80 (by decide) (by decide) | exact sp_ns_of 8 (by decide) h_93 (by decide) (by decide) | exact sp_ns_of 10 (by decide) h_130 (by decide) (by decide) | exact sp_ns_of 11 (by decide) h_143 (by decide) (by decide) | exact sp_ns_of 12 (by decide) h_155 (by decide) (by decide) | exact sp_ns_of 13 (by decide) h_166 (by decide) (by decide) | exact sp_ns_of 14 (by decide) h_177 (by decide) (by decide) | exact sp_ns_of 15 (by decide) h_188 (by decide) (by decide) | exact sp_ns_of 0 (by decide) (sp_bt_eq c_25) (by decide) (by decide) | exact sp_ns_of 2 (by decide) (sp_bt_eq c_31) (by decide) (by decide) | exact sp_ns_of 9 (by decide) (sp_bt_eq c_113) (by decide) (by decide) | exact sp_ns_of 9 (by decide) (sp_bt_eq c_120) (by decide) (by decide)⟩) dX1_isStart_199
                          · subst er143
                            refine lv_if_ne (tgt := 194) hx hb dX1_isStart_146 (by decide) (fun c_146 => absurd c_146 (not_not_intro (by decide))) (fun c_146 => ?_)
                            refine lv_iload_n hx hb dX1_isStart_149 rfl (lv_at hl 1 rfl) ?_
                            refine lv_sipush (v := nI 12289) hx hb dX1_isStart_150 (by decide) ?_
                            refine lv_ldc (v := nI 55295) hx hb hown (hts (.constant RX1 61 (nI 55295)) (by decide +kernel)) dX1_isStart_153 ?_
                            refine vp_callSi (W.runS (As := [.int q, .int (nI 12289), .int (nI 55295)]) (rest := []) ⟨hx, hb, hml, hown, hts⟩ (km_isIn l D ws q (nI 12289) (nI 55295)) (va_cwS 3 hts gX1_isStart_X1_isIn rfl rfl rfl (by decide +kernel) ⟨Nat.le_of_ble_eq_true rfl, Nat.le_of_ble_eq_true rfl⟩) (pu_preS hK hP) rfl rfl hl.1 rfl (lv_room (Nat.le_of_ble_eq_true rfl)) dX1_isStart_155 ⟨Nat.zero_le _, Nat.zero_le _⟩) (fun r155 er155 => ?_)
                            rcases er155 with ⟨er155, h_155⟩ | ⟨er155, h_155⟩
                            · subst er155
                              refine lv_if_ne (tgt := 194) hx hb dX1_isStart_158 (by decide) (fun c_158 => ?_) (fun c_158 => absurd c_158 (by decide))
                              refine lv_iconst (v := nI 1) hx hb dX1_isStart_194 (by decide) ?_
                              refine lv_goto (tgt := 199) hx hb dX1_isStart_195 (by decide) ?_
                              exact pu_zret hx hb hr hlocks (by decide) (Or.inl ⟨rfl, by first | exact sp_ns_of 1 (by decide) h_5 (by decide) (by decide) | exact sp_ns_of 3 (by decide) h_16 (by decide) (by decide) | exact sp_ns_of 4 (by decide) h_41 (by decide) (by decide) | exact sp_ns_of 5 (by decide) h_54 (by decide) (by decide) | exact sp_ns_of 6 (by decide) h_67 (by decide) (by decide) | exact sp_ns_of 7 (by decide) h_80 (by decide) (by decide) | exact sp_ns_of 8 (by decide) h_93 (by decide) (by decide) | exact sp_ns_of 10 (by decide) h_130 (by decide) (by decide) | exact sp_ns_of 11 (by decide) h_143 (by decide) (by decide) | exact sp_ns_of 12 (by decide) h_155 (by decide) (by decide) | exact sp_ns_of 13 (by decide) h_166 (by decide) (by decide) | exact sp_ns_of 14 (by decide) h_177 (by decide) (by decide) | exact sp_ns_of 15 (by decide) h_188 (by decide) (by decide) | exact sp_ns_of 0 (by decide) (sp_bt_eq c_25) (by decide) (by decide) | exact sp_ns_of 2 (by decide) (sp_bt_eq c_31) (by decide) (by decide) | exact sp_ns_of 9 (by decide) (sp_bt_eq c_113) (by decide) (by decide) | exact sp_ns_of 9 (by decide) (sp_bt_eq c_120) (by decide) (by decide)⟩) dX1_isStart_199
                            · subst er155
                              refine lv_if_ne (tgt := 194) hx hb dX1_isStart_158 (by decide) (fun c_158 => absurd c_158 (not_not_intro (by decide))) (fun c_158 => ?_)
                              refine lv_iload_n hx hb dX1_isStart_161 rfl (lv_at hl 1 rfl) ?_
                              refine lv_ldc (v := nI 63744) hx hb hown (hts (.constant RX1 62 (nI 63744)) (by decide +kernel)) dX1_isStart_162 ?_
                              refine lv_ldc (v := nI 64975) hx hb hown (hts (.constant RX1 63 (nI 64975)) (by decide +kernel)) dX1_isStart_164 ?_
                              refine vp_callSi (W.runS (As := [.int q, .int (nI 63744), .int (nI 64975)]) (rest := []) ⟨hx, hb, hml, hown, hts⟩ (km_isIn l D ws q (nI 63744) (nI 64975)) (va_cwS 3 hts gX1_isStart_X1_isIn rfl rfl rfl (by decide +kernel) ⟨Nat.le_of_ble_eq_true rfl, Nat.le_of_ble_eq_true rfl⟩) (pu_preS hK hP) rfl rfl hl.1 rfl (lv_room (Nat.le_of_ble_eq_true rfl)) dX1_isStart_166 ⟨Nat.zero_le _, Nat.zero_le _⟩) (fun r166 er166 => ?_)
                              rcases er166 with ⟨er166, h_166⟩ | ⟨er166, h_166⟩
                              · subst er166
                                refine lv_if_ne (tgt := 194) hx hb dX1_isStart_169 (by decide) (fun c_169 => ?_) (fun c_169 => absurd c_169 (by decide))
                                refine lv_iconst (v := nI 1) hx hb dX1_isStart_194 (by decide) ?_
                                refine lv_goto (tgt := 199) hx hb dX1_isStart_195 (by decide) ?_
                                exact pu_zret hx hb hr hlocks (by decide) (Or.inl ⟨rfl, by first | exact sp_ns_of 1 (by decide) h_5 (by decide) (by decide) | exact sp_ns_of 3 (by decide) h_16 (by decide) (by decide) | exact sp_ns_of 4 (by decide) h_41 (by decide) (by decide) | exact sp_ns_of 5 (by decide) h_54 (by decide) (by decide) | exact sp_ns_of 6 (by decide) h_67 (by decide) (by decide) | exact sp_ns_of 7 (by decide) h_80 (by decide) (by decide) | exact sp_ns_of 8 (by decide) h_93 (by decide) (by decide) | exact sp_ns_of 10 (by decide) h_130 (by decide) (by decide) | exact sp_ns_of 11 (by decide) h_143 (by decide) (by decide) | exact sp_ns_of 12 (by decide) h_155 (by decide) (by decide) | exact sp_ns_of 13 (by decide) h_166 (by decide) (by decide) | exact sp_ns_of 14 (by decide) h_177 (by decide) (by decide) | exact sp_ns_of 15 (by decide) h_188 (by decide) (by decide) | exact sp_ns_of 0 (by decide) (sp_bt_eq c_25) (by decide) (by decide) | exact sp_ns_of 2 (by decide) (sp_bt_eq c_31) (by decide) (by decide) | exact sp_ns_of 9 (by decide) (sp_bt_eq c_113) (by decide) (by decide) | exact sp_ns_of 9 (by decide) (sp_bt_eq c_120) (by decide) (by decide)⟩) dX1_isStart_199
                              · subst er166
                                refine lv_if_ne (tgt := 194) hx hb dX1_isStart_169 (by decide) (fun c_169 => absurd c_169 (not_not_intro (by decide))) (fun c_169 => ?_)
                                refine lv_iload_n hx hb dX1_isStart_172 rfl (lv_at hl 1 rfl) ?_
                                refine lv_ldc (v := nI 65008) hx hb hown (hts (.constant RX1 64 (nI 65008)) (by decide +kernel)) dX1_isStart_173 ?_
                                refine lv_ldc (v := nI 65533) hx hb hown (hts (.constant RX1 65 (nI 65533)) (by decide +kernel)) dX1_isStart_175 ?_
                                refine vp_callSi (W.runS (As := [.int q, .int (nI 65008), .int (nI 65533)]) (rest := []) ⟨hx, hb, hml, hown, hts⟩ (km_isIn l D ws q (nI 65008) (nI 65533)) (va_cwS 3 hts gX1_isStart_X1_isIn rfl rfl rfl (by decide +kernel) ⟨Nat.le_of_ble_eq_true rfl, Nat.le_of_ble_eq_true rfl⟩) (pu_preS hK hP) rfl rfl hl.1 rfl (lv_room (Nat.le_of_ble_eq_true rfl)) dX1_isStart_177 ⟨Nat.zero_le _, Nat.zero_le _⟩) (fun r177 er177 => ?_)
                                rcases er177 with ⟨er177, h_177⟩ | ⟨er177, h_177⟩
                                · subst er177
                                  refine lv_if_ne (tgt := 194) hx hb dX1_isStart_180 (by decide) (fun c_180 => ?_) (fun c_180 => absurd c_180 (by decide))
                                  refine lv_iconst (v := nI 1) hx hb dX1_isStart_194 (by decide) ?_
                                  refine lv_goto (tgt := 199) hx hb dX1_isStart_195 (by decide) ?_
                                  exact pu_zret hx hb hr hlocks (by decide) (Or.inl ⟨rfl, by first | exact sp_ns_of 1 (by decide) h_5 (by decide) (by decide) | exact sp_ns_of 3 (by decide) h_16 (by decide) (by decide) | exact sp_ns_of 4 (by decide) h_41 (by decide) (by decide) | exact sp_ns_of 5 (by decide) h_54 (by decide) (by decide) | exact sp_ns_of 6 (by decide) h_67 (by decide) (by decide) | exact sp_ns_of 7 (by decide) h_80 (by decide) (by decide) | exact sp_ns_of 8 (by decide) h_93 (by decide) (by decide) | exact sp_ns_of 10 (by decide) h_130 (by decide) (by decide) | exact sp_ns_of 11 (by decide) h_143 (by decide) (by decide) | exact sp_ns_of 12 (by decide) h_155 (by decide) (by decide) | exact sp_ns_of 13 (by decide) h_166 (by decide) (by decide) | exact sp_ns_of 14 (by decide) h_177 (by decide) (by decide) | exact sp_ns_of 15 (by decide) h_188 (by decide) (by decide) | exact sp_ns_of 0 (by decide) (sp_bt_eq c_25) (by decide) (by decide) | exact sp_ns_of 2 (by decide) (sp_bt_eq c_31) (by decide) (by decide) | exact sp_ns_of 9 (by decide) (sp_bt_eq c_113) (by decide) (by decide) | exact sp_ns_of 9 (by decide) (sp_bt_eq c_120) (by decide) (by decide)⟩) dX1_isStart_199
                                · subst er177
                                  refine lv_if_ne (tgt := 194) hx hb dX1_isStart_180 (by decide) (fun c_180 => absurd c_180 (not_not_intro (by decide))) (fun c_180 => ?_)
                                  refine lv_iload_n hx hb dX1_isStart_183 rfl (lv_at hl 1 rfl) ?_
                                  refine lv_ldc (v := nI 65536) hx hb hown (hts (.constant RX1 66 (nI 65536)) (by decide +kernel)) dX1_isStart_184 ?_
                                  refine lv_ldc (v := nI 983039) hx hb hown (hts (.constant RX1 67 (nI 983039)) (by decide +kernel)) dX1_isStart_186 ?_
                                  refine vp_callSi (W.runS (As := [.int q, .int (nI 65536), .int (nI 983039)]) (rest := []) ⟨hx, hb, hml, hown, hts⟩ (km_isIn l D ws q (nI 65536) (nI 983039)) (va_cwS 3 hts gX1_isStart_X1_isIn rfl rfl rfl (by decide +kernel) ⟨Nat.le_of_ble_eq_true rfl, Nat.le_of_ble_eq_true rfl⟩) (pu_preS hK hP) rfl rfl hl.1 rfl (lv_room (Nat.le_of_ble_eq_true rfl)) dX1_isStart_188 ⟨Nat.zero_le _, Nat.zero_le _⟩) (fun r188 er188 => ?_)
                                  rcases er188 with ⟨er188, h_188⟩ | ⟨er188, h_188⟩
                                  · subst er188
                                    refine lv_if_eq (tgt := 198) hx hb dX1_isStart_191 (by decide) (fun c_191 => absurd c_191 (by decide)) (fun c_191 => ?_)
                                    refine lv_iconst (v := nI 1) hx hb dX1_isStart_194 (by decide) ?_
                                    refine lv_goto (tgt := 199) hx hb dX1_isStart_195 (by decide) ?_
                                    exact pu_zret hx hb hr hlocks (by decide) (Or.inl ⟨rfl, by first | exact sp_ns_of 1 (by decide) h_5 (by decide) (by decide) | exact sp_ns_of 3 (by decide) h_16 (by decide) (by decide) | exact sp_ns_of 4 (by decide) h_41 (by decide) (by decide) | exact sp_ns_of 5 (by decide) h_54 (by decide) (by decide) | exact sp_ns_of 6 (by decide) h_67 (by decide) (by decide) | exact sp_ns_of 7 (by decide) h_80 (by decide) (by decide) | exact sp_ns_of 8 (by decide) h_93 (by decide) (by decide) | exact sp_ns_of 10 (by decide) h_130 (by decide) (by decide) | exact sp_ns_of 11 (by decide) h_143 (by decide) (by decide) | exact sp_ns_of 12 (by decide) h_155 (by decide) (by decide) | exact sp_ns_of 13 (by decide) h_166 (by decide) (by decide) | exact sp_ns_of 14 (by decide) h_177 (by decide) (by decide) | exact sp_ns_of 15 (by decide) h_188 (by decide) (by decide) | exact sp_ns_of 0 (by decide) (sp_bt_eq c_25) (by decide) (by decide) | exact sp_ns_of 2 (by decide) (sp_bt_eq c_31) (by decide) (by decide) | exact sp_ns_of 9 (by decide) (sp_bt_eq c_113) (by decide) (by decide) | exact sp_ns_of 9 (by decide) (sp_bt_eq c_120) (by decide) (by decide)⟩) dX1_isStart_199
                                  · subst er188
                                    refine lv_if_eq (tgt := 198) hx hb dX1_isStart_191 (by decide) (fun c_191 => ?_) (fun c_191 => absurd c_191 (not_not_intro (by decide)))
                                    refine lv_iconst (v := nI 0) hx hb dX1_isStart_198 (by decide) ?_
                                    exact pu_zret hx hb hr hlocks (by decide) (Or.inr ⟨rfl, md_ns_no c_25 h_5 c_31 h_16 h_41 h_54 h_67 h_80 h_93 c_113 c_120 h_130 h_143 h_155 h_166 h_177 h_188⟩) dX1_isStart_199
set_option maxHeartbeats 4000000 in
set_option maxRecDepth 100000 in
/-- colon -/
theorem km_colon (l : Launch) (D : va_G) {tys : List (ClassId × FieldType)} {cI : ClassId} (hty : tys[0]? = some (cI, .int)) (m0 ms mt ml md mk : Nat) (wr : va_W) (sg ta le dr so : Nat → Int32) (us rc n sn : Nat) (S : Nat → Nat) (hM : md_S ta le us rc S) (k : Int32) : Met l yX1_colon wsX1_colon ({ frames := 2, cells := 0, slots := 0, locals := 50 }) (pu_Pc D vwCl (md_W cI m0 ms mt ml md mk wr sg ta le dr so us rc n sn) tys [.ref m0, .int k]) (vp_Si (fun r => r = sp_colon (cn_rows sg S 1 rc) k)) 0 0 (fun _ => False) := by
  refine pu_of (cc := cX1_colon) (maxL := 6) (ret := some .int) (own := RX1) (by decide) rfl rfl (Nat.le_of_ble_eq_true rfl) ?_
  intro p e s m below meth c hx hb hr hts hown hlocks hml hP hK ls hl
  have hl : lv_has ls 6 [(0, .ref m0), (1, .int k)] := hl
  have hin1 : ∀ w ∈ u_ws RX1 TX1 9, w ∈ wsX1_colon := by decide +kernel
  have f7 := hts (.fieldLink RX1 7 "NameNumbersModel" "signs" "[I") (by decide +kernel)
  have f13 := hts (.fieldLink RX1 13 "NameNumbersModel" "starts" "[I") (by decide +kernel)
  have f16 := hts (.fieldLink RX1 16 "NameNumbersModel" "lengths" "[I") (by decide +kernel)
  refine lv_aload_n hx hb dX1_colon_0 rfl (lv_at hl 0 rfl) ?_
  refine lv_iload_n hx hb dX1_colon_1 rfl (lv_at hl 1 rfl) ?_
  refine vp_callSi (W.runV (As := [.int k]) (rest := []) ⟨hx, hb, hml, hown, hts⟩ (km_isRow l D hty m0 ms mt ml md mk wr sg ta le dr so us rc n sn hM.2.2.2.2.2 k) (cwV 1 hts gX1_colon_X1_isRow rfl rfl rfl (by decide +kernel) ⟨Nat.le_of_ble_eq_true rfl, Nat.le_of_ble_eq_true rfl⟩) (pu_preV hK hP 0 rfl rfl) rfl rfl hl.1 rfl (lv_room (Nat.le_of_ble_eq_true rfl)) dX1_colon_2 ⟨Nat.zero_le _, Nat.zero_le _⟩) (fun r2 er2 => ?_)
  rcases er2 with ⟨er2, hk_k⟩ | ⟨er2, hk_k⟩
  · subst er2
    obtain ⟨k', h1_k, h2_k, rfl⟩ := hk_k
    have hw_k := cn_row_yes (ch := sg) (md_R hM) h1_k h2_k
    refine lv_if_ne (tgt := 11) hx hb dX1_colon_5 (by decide) (fun c_5 => ?_) (fun c_5 => absurd c_5 (by decide))
    have htk := cn_top (md_R hM) (k := k' + 1) (by omega) (by omega)
    have hlk := hM.2.2.1 k' h1_k h2_k
    have hrc := hM.2.2.2.2.2
    refine lv_iconst (v := nI 0) hx hb dX1_colon_11 (by decide) ?_
    refine lv_istore_n (lv' := [(2, .int (nI 0)), (0, .ref m0), (1, .int (nI k'))]) hx hb dX1_colon_12 rfl hl (by decide) rfl (fun ls hl => ?_)
    refine lv_iconst (v := nI 0) hx hb dX1_colon_13 (by decide) ?_
    refine lv_istore_n (lv' := [(3, .int (nI 0)), (2, .int (nI 0)), (0, .ref m0), (1, .int (nI k'))]) hx hb dX1_colon_14 rfl hl (by decide) rfl (fun ls hl => ?_)
    refine lv_iconst (v := nI 0) hx hb dX1_colon_15 (by decide) ?_
    refine lv_istore (lv' := [(4, .int (nI 0)), (3, .int (nI 0)), (2, .int (nI 0)), (0, .ref m0), (1, .int (nI k'))]) hx hb dX1_colon_16 hl (by decide) rfl (fun ls hl => ?_)
    have loop : ∀ (j : Nat) (i : Nat) (mn : Nat) (la : Nat) (ls : Array Slot), (S (k' + 1) - S k') + 1 ≤ i + j → i ≤ (S (k' + 1) - S k') → mn ≤ i → la ≤ i → md_ci sg (S k') i mn la → lv_has ls 6 [(0, .ref m0), (1, .int (nI k')), (2, .int (nI mn)), (3, .int (nI la)), (4, .int (nI i))] → W p l e { frames := 2, cells := 0, slots := 0, locals := 50 } s m [.ref m0, .int (nI k')].toArray below meth c s.heap [] 0 0 (MQ below (vp_Si (fun r => r = sp_colon (cn_rows sg S 1 rc) (nI k'))) [.ref m0, .int (nI k')].toArray s 0 0 (fun _ => False)) (F0 m 18 ls []) := by
      intro j
      induction j with
      | zero => intro i mn la ls hj hi hmn hla hinv hl; exfalso; omega
      | succ j ih =>
        intro i mn la ls hj hi hmn hla hinv hl
        refine lv_iload hx hb dX1_colon_18 (lv_at hl 4 rfl) ?_
        refine lv_aload_n hx hb dX1_colon_20 rfl (lv_at hl 0 rfl) ?_
        refine va_get (D := D) (ci := 1) (v := .ref ml) (C := RX1) (T := TX1) (N := 9) hx hb hts hin1 hown hK hP 0 rfl rfl 3 (by decide) f16 (fun _ h9 => h9) rfl dX1_colon_21 ?_
        refine lv_iload_n hx hb dX1_colon_24 rfl (lv_at hl 1 rfl) ?_
        refine rn_ald (v := nI (S (k' + 1) - S k')) hx hb hK hP 3 0 rfl hty (by have := hM.2.2.2.2.2; omega) (by decide) ((hM.2.1 k' (by omega) (by omega)).2) dX1_colon_25 ?_
        refine rn_icmp_ge (tgt := 86) hx hb (by omega) (by omega) dX1_colon_26 (by decide) (fun c_26 => ?_) (fun c_26 => ?_)
        · have hin : i = S (k' + 1) - S k' := by omega
          subst hin
          refine lv_iload_n hx hb dX1_colon_86 rfl (lv_at hl 2 rfl) ?_
          refine lv_if_ne (tgt := 92) hx hb dX1_colon_87 (by decide) (fun c_87 => ?_) (fun c_87 => ?_)
          · refine lv_iload_n hx hb dX1_colon_92 rfl (lv_at hl 2 rfl) ?_
            refine lv_iconst (v := nI 1) hx hb dX1_colon_93 (by decide) ?_
            refine rn_icmp_ne (tgt := 138) hx hb (by omega) (by omega) dX1_colon_94 (by decide) (fun c_94 => ?_) (fun c_94 => ?_)
            · refine lv_iconst (v := nI 0) hx hb dX1_colon_138 (by decide) ?_
              refine lv_istore (lv' := [(4, .int (nI 0)), (0, .ref m0), (1, .int (nI k')), (2, .int (nI mn)), (3, .int (nI la))]) hx hb dX1_colon_139 hl (by decide) rfl (fun ls hl => ?_)
              refine lv_iload hx hb dX1_colon_141 (lv_at hl 0 rfl) ?_
              refine lv_if_eq (tgt := 150) hx hb dX1_colon_143 (by decide) (fun c_143 => ?_) (fun c_143 => absurd c_143 (not_not_intro (by decide)))
              refine lv_iconst (v := (-1)) hx hb dX1_colon_150 (by decide) ?_
              exact pu_iret hx hb hr hlocks (by rw [sp_colon, hw_k]; first | exact md_co_2 rfl hinv (fun z => c_87 (by rw [z]; rfl)) c_94 | exact md_co_no rfl hinv c_94 (fun z => absurd c_98 (nI_nle z.1 (by omega))) | exact md_co_no rfl hinv c_94 (fun z => absurd c_110 (by omega)) | exact md_co_ns rfl hinv c_94 c_110 hns) dX1_colon_151
            · refine lv_iload_n hx hb dX1_colon_97 rfl (lv_at hl 3 rfl) ?_
              refine lv_if_le (tgt := 138) hx hb dX1_colon_98 (by decide) (fun c_98 => ?_) (fun c_98 => ?_)
              · refine lv_iconst (v := nI 0) hx hb dX1_colon_138 (by decide) ?_
                refine lv_istore (lv' := [(4, .int (nI 0)), (0, .ref m0), (1, .int (nI k')), (2, .int (nI mn)), (3, .int (nI la))]) hx hb dX1_colon_139 hl (by decide) rfl (fun ls hl => ?_)
                refine lv_iload hx hb dX1_colon_141 (lv_at hl 0 rfl) ?_
                refine lv_if_eq (tgt := 150) hx hb dX1_colon_143 (by decide) (fun c_143 => ?_) (fun c_143 => absurd c_143 (not_not_intro (by decide)))
                refine lv_iconst (v := (-1)) hx hb dX1_colon_150 (by decide) ?_
                exact pu_iret hx hb hr hlocks (by rw [sp_colon, hw_k]; first | exact md_co_2 rfl hinv (fun z => c_87 (by rw [z]; rfl)) c_94 | exact md_co_no rfl hinv c_94 (fun z => absurd c_98 (nI_nle z.1 (by omega))) | exact md_co_no rfl hinv c_94 (fun z => absurd c_110 (by omega)) | exact md_co_ns rfl hinv c_94 c_110 hns) dX1_colon_151
              · refine lv_iload_n hx hb dX1_colon_101 rfl (lv_at hl 3 rfl) ?_
                refine lv_iconst (v := nI 1) hx hb dX1_colon_102 (by decide) ?_
                refine rn_iadd hx hb dX1_colon_103 ?_
                refine lv_aload_n hx hb dX1_colon_104 rfl (lv_at hl 0 rfl) ?_
                refine va_get (D := D) (ci := 1) (v := .ref ml) (C := RX1) (T := TX1) (N := 9) hx hb hts hin1 hown hK hP 0 rfl rfl 3 (by decide) f16 (fun _ h9 => h9) rfl dX1_colon_105 ?_
                refine lv_iload_n hx hb dX1_colon_108 rfl (lv_at hl 1 rfl) ?_
                refine rn_ald (v := nI (S (k' + 1) - S k')) hx hb hK hP 3 0 rfl hty (by have := hM.2.2.2.2.2; omega) (by decide) ((hM.2.1 k' (by omega) (by omega)).2) dX1_colon_109 ?_
                refine rn_icmp_ge (tgt := 138) hx hb (by omega) (by omega) dX1_colon_110 (by decide) (fun c_110 => ?_) (fun c_110 => ?_)
                · refine lv_iconst (v := nI 0) hx hb dX1_colon_138 (by decide) ?_
                  refine lv_istore (lv' := [(4, .int (nI 0)), (0, .ref m0), (1, .int (nI k')), (2, .int (nI mn)), (3, .int (nI la))]) hx hb dX1_colon_139 hl (by decide) rfl (fun ls hl => ?_)
                  refine lv_iload hx hb dX1_colon_141 (lv_at hl 0 rfl) ?_
                  refine lv_if_eq (tgt := 150) hx hb dX1_colon_143 (by decide) (fun c_143 => ?_) (fun c_143 => absurd c_143 (not_not_intro (by decide)))
                  refine lv_iconst (v := (-1)) hx hb dX1_colon_150 (by decide) ?_
                  exact pu_iret hx hb hr hlocks (by rw [sp_colon, hw_k]; first | exact md_co_2 rfl hinv (fun z => c_87 (by rw [z]; rfl)) c_94 | exact md_co_no rfl hinv c_94 (fun z => absurd c_98 (nI_nle z.1 (by omega))) | exact md_co_no rfl hinv c_94 (fun z => absurd c_110 (by omega)) | exact md_co_ns rfl hinv c_94 c_110 hns) dX1_colon_151
                · refine lv_aload_n hx hb dX1_colon_113 rfl (lv_at hl 0 rfl) ?_
                  refine va_get (D := D) (ci := 1) (v := .ref ms) (C := RX1) (T := TX1) (N := 9) hx hb hts hin1 hown hK hP 0 rfl rfl 0 (by decide) f7 (fun _ h9 => h9) rfl dX1_colon_114 ?_
                  refine lv_aload_n hx hb dX1_colon_117 rfl (lv_at hl 0 rfl) ?_
                  refine va_get (D := D) (ci := 1) (v := .ref mt) (C := RX1) (T := TX1) (N := 9) hx hb hts hin1 hown hK hP 0 rfl rfl 2 (by decide) f13 (fun _ h9 => h9) rfl dX1_colon_118 ?_
                  refine lv_iload_n hx hb dX1_colon_121 rfl (lv_at hl 1 rfl) ?_
                  refine rn_ald (v := nI (S k')) hx hb hK hP 2 0 rfl hty (by have := hM.2.2.2.2.2; omega) (by decide) ((hM.2.1 k' (by omega) (by omega)).1) dX1_colon_122 ?_
                  refine lv_iload_n hx hb dX1_colon_123 rfl (lv_at hl 3 rfl) ?_
                  refine rn_iadd hx hb dX1_colon_124 ?_
                  refine lv_iconst (v := nI 1) hx hb dX1_colon_125 (by decide) ?_
                  refine rn_iadd hx hb dX1_colon_126 ?_
                  refine rn_ald (v := (sg (S k' + la + 1))) hx hb hK hP 1 0 rfl hty (by omega) (by decide) (rfl) dX1_colon_127 ?_
                  refine vp_callSi (W.runS (As := [.int (sg (S k' + la + 1))]) (rest := []) ⟨hx, hb, hml, hown, hts⟩ (km_isStart l D (md_W cI m0 ms mt ml md mk wr sg ta le dr so us rc n sn) (sg (S k' + la + 1))) (va_cwS 1 hts gX1_colon_X1_isStart rfl rfl rfl (by decide +kernel) ⟨Nat.le_of_ble_eq_true rfl, Nat.le_of_ble_eq_true rfl⟩) (pu_preS hK hP) rfl rfl hl.1 rfl (lv_room (Nat.le_of_ble_eq_true rfl)) dX1_colon_128 ⟨Nat.zero_le _, Nat.zero_le _⟩) (fun r128 er128 => ?_)
                  rcases er128 with ⟨er128, hns⟩ | ⟨er128, hns⟩
                  · subst er128
                    refine lv_if_eq (tgt := 138) hx hb dX1_colon_131 (by decide) (fun c_131 => absurd c_131 (by decide)) (fun c_131 => ?_)
                    refine lv_iconst (v := nI 1) hx hb dX1_colon_134 (by decide) ?_
                    refine lv_goto (tgt := 139) hx hb dX1_colon_135 (by decide) ?_
                    refine lv_istore (lv' := [(4, .int (nI 1)), (0, .ref m0), (1, .int (nI k')), (2, .int (nI mn)), (3, .int (nI la))]) hx hb dX1_colon_139 hl (by decide) rfl (fun ls hl => ?_)
                    refine lv_iload hx hb dX1_colon_141 (lv_at hl 0 rfl) ?_
                    refine lv_if_eq (tgt := 150) hx hb dX1_colon_143 (by decide) (fun c_143 => absurd c_143 (by decide)) (fun c_143 => ?_)
                    refine lv_iload_n hx hb dX1_colon_146 rfl (lv_at hl 4 rfl) ?_
                    refine lv_goto (tgt := 151) hx hb dX1_colon_147 (by decide) ?_
                    exact pu_iret hx hb hr hlocks (by rw [sp_colon, hw_k]; exact md_co_yes rfl hinv c_94 (by rcases Nat.eq_zero_or_pos la with z | z <;> first | exact z | (subst z; exact absurd (show nI 0 ≤ 0 by decide) c_98)) c_110 hns) dX1_colon_151
                  · subst er128
                    refine lv_if_eq (tgt := 138) hx hb dX1_colon_131 (by decide) (fun c_131 => ?_) (fun c_131 => absurd c_131 (not_not_intro (by decide)))
                    refine lv_iconst (v := nI 0) hx hb dX1_colon_138 (by decide) ?_
                    refine lv_istore (lv' := [(4, .int (nI 0)), (0, .ref m0), (1, .int (nI k')), (2, .int (nI mn)), (3, .int (nI la))]) hx hb dX1_colon_139 hl (by decide) rfl (fun ls hl => ?_)
                    refine lv_iload hx hb dX1_colon_141 (lv_at hl 0 rfl) ?_
                    refine lv_if_eq (tgt := 150) hx hb dX1_colon_143 (by decide) (fun c_143 => ?_) (fun c_143 => absurd c_143 (not_not_intro (by decide)))
                    refine lv_iconst (v := (-1)) hx hb dX1_colon_150 (by decide) ?_
                    exact pu_iret hx hb hr hlocks (by rw [sp_colon, hw_k]; first | exact md_co_2 rfl hinv (fun z => c_87 (by rw [z]; rfl)) c_94 | exact md_co_no rfl hinv c_94 (fun z => absurd c_98 (nI_nle z.1 (by omega))) | exact md_co_no rfl hinv c_94 (fun z => absurd c_110 (by omega)) | exact md_co_ns rfl hinv c_94 c_110 hns) dX1_colon_151
          · refine lv_iconst (v := nI 0) hx hb dX1_colon_90 (by decide) ?_
            exact pu_iret hx hb hr hlocks (by rw [sp_colon, hw_k]; exact md_co_0 rfl hinv (sp_nI0 (by omega) c_87)) dX1_colon_91
        · refine lv_aload_n hx hb dX1_colon_29 rfl (lv_at hl 0 rfl) ?_
          refine va_get (D := D) (ci := 1) (v := .ref ms) (C := RX1) (T := TX1) (N := 9) hx hb hts hin1 hown hK hP 0 rfl rfl 0 (by decide) f7 (fun _ h9 => h9) rfl dX1_colon_30 ?_
          refine lv_aload_n hx hb dX1_colon_33 rfl (lv_at hl 0 rfl) ?_
          refine va_get (D := D) (ci := 1) (v := .ref mt) (C := RX1) (T := TX1) (N := 9) hx hb hts hin1 hown hK hP 0 rfl rfl 2 (by decide) f13 (fun _ h9 => h9) rfl dX1_colon_34 ?_
          refine lv_iload_n hx hb dX1_colon_37 rfl (lv_at hl 1 rfl) ?_
          refine rn_ald (v := nI (S k')) hx hb hK hP 2 0 rfl hty (by have := hM.2.2.2.2.2; omega) (by decide) ((hM.2.1 k' (by omega) (by omega)).1) dX1_colon_38 ?_
          refine lv_iload hx hb dX1_colon_39 (lv_at hl 4 rfl) ?_
          refine rn_iadd hx hb dX1_colon_41 ?_
          refine rn_ald (v := (sg (S k' + i))) hx hb hK hP 1 0 rfl hty (by omega) (by decide) (rfl) dX1_colon_42 ?_
          refine lv_bipush (v := nI 58) hx hb dX1_colon_43 (by decide) ?_
          refine lv_icmp_ne (tgt := 52) hx hb dX1_colon_45 (by decide) (fun c_45 => ?_) (fun c_45 => ?_)
          · refine lv_iconst (v := nI 0) hx hb dX1_colon_52 (by decide) ?_
            refine lv_istore (lv' := [(5, .int (nI 0)), (0, .ref m0), (1, .int (nI k')), (2, .int (nI mn)), (3, .int (nI la)), (4, .int (nI i))]) hx hb dX1_colon_53 hl (by decide) rfl (fun ls hl => ?_)
            refine lv_iload hx hb dX1_colon_55 (lv_at hl 0 rfl) ?_
            refine lv_if_eq (tgt := 66) hx hb dX1_colon_57 (by decide) (fun c_57 => ?_) (fun c_57 => absurd c_57 (not_not_intro (by decide)))
            refine lv_iload_n hx hb dX1_colon_66 rfl (lv_at hl 3 rfl) ?_
            refine lv_istore_n (lv' := [(2, .int (nI mn)), (5, .int (nI 0)), (0, .ref m0), (1, .int (nI k')), (3, .int (nI la)), (4, .int (nI i))]) hx hb dX1_colon_67 rfl hl (by decide) rfl (fun ls hl => ?_)
            refine lv_iload hx hb dX1_colon_68 (lv_at hl 1 rfl) ?_
            refine lv_if_eq (tgt := 78) hx hb dX1_colon_70 (by decide) (fun c_70 => ?_) (fun c_70 => absurd c_70 (not_not_intro (by decide)))
            refine lv_iload_n hx hb dX1_colon_78 rfl (lv_at hl 4 rfl) ?_
            refine lv_istore_n (lv' := [(3, .int (nI la)), (2, .int (nI mn)), (5, .int (nI 0)), (0, .ref m0), (1, .int (nI k')), (4, .int (nI i))]) hx hb dX1_colon_79 rfl hl (by decide) rfl (fun ls hl => ?_)
            refine rn_iinc (n := 1) (lv' := [(4, .int (nI (i + 1))), (3, .int (nI la)), (2, .int (nI mn)), (5, .int (nI 0)), (0, .ref m0), (1, .int (nI k'))]) hx hb dX1_colon_80 hl (k := 5) rfl (by decide) rfl (fun ls hl => ?_)
            refine lv_goto (tgt := 18) hx hb dX1_colon_83 (by decide) ?_
            exact ih (i + 1) mn la ls (by omega) (by omega) (by omega) (by omega) (md_ci_no hinv c_45) (lv_sub hl [4, 5, 2, 1, 0] rfl)
          · refine lv_iconst (v := nI 1) hx hb dX1_colon_48 (by decide) ?_
            refine lv_goto (tgt := 53) hx hb dX1_colon_49 (by decide) ?_
            refine lv_istore (lv' := [(5, .int (nI 1)), (0, .ref m0), (1, .int (nI k')), (2, .int (nI mn)), (3, .int (nI la)), (4, .int (nI i))]) hx hb dX1_colon_53 hl (by decide) rfl (fun ls hl => ?_)
            refine lv_iload hx hb dX1_colon_55 (lv_at hl 0 rfl) ?_
            refine lv_if_eq (tgt := 66) hx hb dX1_colon_57 (by decide) (fun c_57 => absurd c_57 (by decide)) (fun c_57 => ?_)
            refine lv_iload_n hx hb dX1_colon_60 rfl (lv_at hl 3 rfl) ?_
            refine lv_iconst (v := nI 1) hx hb dX1_colon_61 (by decide) ?_
            refine rn_iadd hx hb dX1_colon_62 ?_
            refine lv_goto (tgt := 67) hx hb dX1_colon_63 (by decide) ?_
            refine lv_istore_n (lv' := [(2, .int (nI (mn + 1))), (5, .int (nI 1)), (0, .ref m0), (1, .int (nI k')), (3, .int (nI la)), (4, .int (nI i))]) hx hb dX1_colon_67 rfl hl (by decide) rfl (fun ls hl => ?_)
            refine lv_iload hx hb dX1_colon_68 (lv_at hl 1 rfl) ?_
            refine lv_if_eq (tgt := 78) hx hb dX1_colon_70 (by decide) (fun c_70 => absurd c_70 (by decide)) (fun c_70 => ?_)
            refine lv_iload hx hb dX1_colon_73 (lv_at hl 5 rfl) ?_
            refine lv_goto (tgt := 79) hx hb dX1_colon_75 (by decide) ?_
            refine lv_istore_n (lv' := [(3, .int (nI i)), (2, .int (nI (mn + 1))), (5, .int (nI 1)), (0, .ref m0), (1, .int (nI k')), (4, .int (nI i))]) hx hb dX1_colon_79 rfl hl (by decide) rfl (fun ls hl => ?_)
            refine rn_iinc (n := 1) (lv' := [(4, .int (nI (i + 1))), (3, .int (nI i)), (2, .int (nI (mn + 1))), (5, .int (nI 1)), (0, .ref m0), (1, .int (nI k'))]) hx hb dX1_colon_80 hl (k := 5) rfl (by decide) rfl (fun ls hl => ?_)
            refine lv_goto (tgt := 18) hx hb dX1_colon_83 (by decide) ?_
            exact ih (i + 1) (mn + 1) i ls (by omega) (by omega) (by omega) (by omega) (md_ci_yes hinv c_45) (lv_sub hl [4, 5, 2, 1, 0] rfl)
    exact loop ((S (k' + 1) - S k') + 1) 0 0 0 ls (by omega) (Nat.zero_le _) (Nat.le_refl _) (Nat.le_refl _) (Or.inl ⟨rfl, rfl, fun z hz => absurd hz (Nat.not_lt_zero z)⟩) (lv_sub hl [3, 4, 2, 1, 0] rfl)
  · subst er2
    have hw_k := cn_row_no (ch := sg) (md_R hM) hk_k
    refine lv_if_ne (tgt := 11) hx hb dX1_colon_5 (by decide) (fun c_5 => absurd c_5 (not_not_intro (by decide))) (fun c_5 => ?_)
    refine lv_bipush (v := (-2)) hx hb dX1_colon_8 (by decide) ?_
    exact pu_iret hx hb hr hlocks (by rw [sp_colon, hw_k]) dX1_colon_10
set_option maxHeartbeats 4000000 in
set_option maxRecDepth 100000 in
/-- the reference's constructor: five arrays are made -/
theorem km_init (l : Launch) (D : va_G) {tys : List (ClassId × FieldType)} {cI : ClassId} (hty : tys[0]? = some (cI, .int)) (m0 : Nat) (wr : va_W) (A : Nat → Prop) : Met l yX1_init wsX1_init ({ frames := 1, cells := 5, slots := 48002, locals := 20 }) (mk_Pc D vwCl ((m0, .inr (1, [.null, .int 0, .null, .null, .int 0, .null, .int 0, .null, .int 0])) :: wr) tys A [.ref m0]) (va_Qv (fun w => ∃ ms mt ml md mk : Nat, w = (m0, .inr (1, [.ref ms, .int 0, .ref mt, .ref ml, .int 0, .ref md, .int 0, .ref mk, .int 0])) :: (((((wr ++ [(ms, .inl (cI, 20000, .inl (fun _ => 0)))]) ++ [(mt, .inl (cI, 3001, .inl (fun _ => 0)))]) ++ [(ml, .inl (cI, 3001, .inl (fun _ => 0)))]) ++ [(md, .inl (cI, 2000, .inl (fun _ => 0)))]) ++ [(mk, .inl (cI, 20000, .inl (fun _ => 0)))])) (mu_B D vwCl tys A) A) 5 48002 A := by
  refine mk_of (cc := cX1_init) (maxL := 1) (own := RX1) (by decide) rfl rfl rfl (Nat.le_of_ble_eq_true rfl) ?_
  intro p e s m below meth c hx hb hr hts hown hlocks hin hml hP hK hD hS hA ls hl
  have hl : lv_has ls 1 [(0, .ref m0)] := hl
  have hin1 : ∀ w ∈ u_ws RX1 TX1 9, w ∈ wsX1_init := by decide +kernel
  have f7 := hts (.fieldLink RX1 7 "NameNumbersModel" "signs" "[I") (by decide +kernel)
  have f13 := hts (.fieldLink RX1 13 "NameNumbersModel" "starts" "[I") (by decide +kernel)
  have f16 := hts (.fieldLink RX1 16 "NameNumbersModel" "lengths" "[I") (by decide +kernel)
  have f19 := hts (.fieldLink RX1 19 "NameNumbersModel" "draft" "[I") (by decide +kernel)
  have f22 := hts (.fieldLink RX1 22 "NameNumbersModel" "sought" "[I") (by decide +kernel)
  have harr := hts (.arrayClass .int) (by decide +kernel)
  refine lv_aload_n hx hb dX1_init_0 rfl (lv_at hl 0 rfl) ?_
  refine W.objInit hx hb hown (hts (.methodLink RX1 1 objectInit) (by decide +kernel)) (hts (.instanceMethod objectInit) (by decide +kernel)) (hts _ (List.mem_of_getElem? (i := 3) rfl)) rfl (by rw [hml]; exact hl.1) rfl dX1_init_1 (Nat.le_of_ble_eq_true rfl) (Nat.le_of_ble_eq_true rfl) ?_
  refine W.eq (g2 := F0 m 4 ls []) rfl ?_
  refine lv_aload_n hx hb dX1_init_4 rfl (lv_at hl 0 rfl) ?_
  refine lv_sipush (v := nI 20000) hx hb dX1_init_5 (by decide) ?_
  refine rn_newa hx hb harr hK hty hP hD hS hA (by decide) (by decide) (Nat.le_of_ble_eq_true rfl) (Nat.le_of_ble_eq_true rfl) dX1_init_8 (fun ms H hP hD hS => ?_)
  have hP : va_P D vwCl ((m0, .inr (1, [.null, .int 0, .null, .null, .int 0, .null, .int 0, .null, .int 0])) :: (wr ++ [(ms, .inl (cI, 20000, .inl (fun _ => 0)))])) H := hP
  have hD : va_D A ((m0, .inr (1, [.null, .int 0, .null, .null, .int 0, .null, .int 0, .null, .int 0])) :: (wr ++ [(ms, .inl (cI, 20000, .inl (fun _ => 0)))])) := hD
  refine W.widen (k := 1) (n := 20000) (by omega) (by omega) ?_
  refine va_putF (D := D) (ci := 1) (v := .ref ms) (ty := .array .int) (C := RX1) (T := TX1) (N := 9) hx hb hts hin1 tyX1 tyX1_ok nmX1 hown hK hP hD hS 0 rfl rfl 0 (by decide) f7 (fun _ h9 => h9) rfl hin rfl (by decide +kernel) rfl rfl (Nat.le_of_ble_eq_true rfl) dX1_init_10 (fun H locs hP hD hS => ?_)
  have hP : va_P D vwCl ((m0, .inr (1, [.ref ms, .int 0, .null, .null, .int 0, .null, .int 0, .null, .int 0])) :: (wr ++ [(ms, .inl (cI, 20000, .inl (fun _ => 0)))])) H := hP
  have hD : va_D A ((m0, .inr (1, [.ref ms, .int 0, .null, .null, .int 0, .null, .int 0, .null, .int 0])) :: (wr ++ [(ms, .inl (cI, 20000, .inl (fun _ => 0)))])) := hD
  refine lv_aload_n hx hb dX1_init_13 rfl (lv_at hl 0 rfl) ?_
  refine lv_sipush (v := nI 3001) hx hb dX1_init_14 (by decide) ?_
  refine rn_newa hx hb harr hK hty hP hD hS hA (by decide) (by decide) (Nat.le_of_ble_eq_true rfl) (Nat.le_of_ble_eq_true rfl) dX1_init_17 (fun mt H hP hD hS => ?_)
  have hP : va_P D vwCl ((m0, .inr (1, [.ref ms, .int 0, .null, .null, .int 0, .null, .int 0, .null, .int 0])) :: ((wr ++ [(ms, .inl (cI, 20000, .inl (fun _ => 0)))]) ++ [(mt, .inl (cI, 3001, .inl (fun _ => 0)))])) H := hP
  have hD : va_D A ((m0, .inr (1, [.ref ms, .int 0, .null, .null, .int 0, .null, .int 0, .null, .int 0])) :: ((wr ++ [(ms, .inl (cI, 20000, .inl (fun _ => 0)))]) ++ [(mt, .inl (cI, 3001, .inl (fun _ => 0)))])) := hD
  refine W.widen (k := 2) (n := 23001) (by omega) (by omega) ?_
  refine va_putF (D := D) (ci := 1) (v := .ref mt) (ty := .array .int) (C := RX1) (T := TX1) (N := 9) hx hb hts hin1 tyX1 tyX1_ok nmX1 hown hK hP hD hS 0 rfl rfl 2 (by decide) f13 (fun _ h9 => h9) rfl hin rfl (by decide +kernel) rfl rfl (Nat.le_of_ble_eq_true rfl) dX1_init_19 (fun H locs hP hD hS => ?_)
  have hP : va_P D vwCl ((m0, .inr (1, [.ref ms, .int 0, .ref mt, .null, .int 0, .null, .int 0, .null, .int 0])) :: ((wr ++ [(ms, .inl (cI, 20000, .inl (fun _ => 0)))]) ++ [(mt, .inl (cI, 3001, .inl (fun _ => 0)))])) H := hP
  have hD : va_D A ((m0, .inr (1, [.ref ms, .int 0, .ref mt, .null, .int 0, .null, .int 0, .null, .int 0])) :: ((wr ++ [(ms, .inl (cI, 20000, .inl (fun _ => 0)))]) ++ [(mt, .inl (cI, 3001, .inl (fun _ => 0)))])) := hD
  refine lv_aload_n hx hb dX1_init_22 rfl (lv_at hl 0 rfl) ?_
  refine lv_sipush (v := nI 3001) hx hb dX1_init_23 (by decide) ?_
  refine rn_newa hx hb harr hK hty hP hD hS hA (by decide) (by decide) (Nat.le_of_ble_eq_true rfl) (Nat.le_of_ble_eq_true rfl) dX1_init_26 (fun ml H hP hD hS => ?_)
  have hP : va_P D vwCl ((m0, .inr (1, [.ref ms, .int 0, .ref mt, .null, .int 0, .null, .int 0, .null, .int 0])) :: (((wr ++ [(ms, .inl (cI, 20000, .inl (fun _ => 0)))]) ++ [(mt, .inl (cI, 3001, .inl (fun _ => 0)))]) ++ [(ml, .inl (cI, 3001, .inl (fun _ => 0)))])) H := hP
  have hD : va_D A ((m0, .inr (1, [.ref ms, .int 0, .ref mt, .null, .int 0, .null, .int 0, .null, .int 0])) :: (((wr ++ [(ms, .inl (cI, 20000, .inl (fun _ => 0)))]) ++ [(mt, .inl (cI, 3001, .inl (fun _ => 0)))]) ++ [(ml, .inl (cI, 3001, .inl (fun _ => 0)))])) := hD
  refine W.widen (k := 3) (n := 26002) (by omega) (by omega) ?_
  refine va_putF (D := D) (ci := 1) (v := .ref ml) (ty := .array .int) (C := RX1) (T := TX1) (N := 9) hx hb hts hin1 tyX1 tyX1_ok nmX1 hown hK hP hD hS 0 rfl rfl 3 (by decide) f16 (fun _ h9 => h9) rfl hin rfl (by decide +kernel) rfl rfl (Nat.le_of_ble_eq_true rfl) dX1_init_28 (fun H locs hP hD hS => ?_)
  have hP : va_P D vwCl ((m0, .inr (1, [.ref ms, .int 0, .ref mt, .ref ml, .int 0, .null, .int 0, .null, .int 0])) :: (((wr ++ [(ms, .inl (cI, 20000, .inl (fun _ => 0)))]) ++ [(mt, .inl (cI, 3001, .inl (fun _ => 0)))]) ++ [(ml, .inl (cI, 3001, .inl (fun _ => 0)))])) H := hP
  have hD : va_D A ((m0, .inr (1, [.ref ms, .int 0, .ref mt, .ref ml, .int 0, .null, .int 0, .null, .int 0])) :: (((wr ++ [(ms, .inl (cI, 20000, .inl (fun _ => 0)))]) ++ [(mt, .inl (cI, 3001, .inl (fun _ => 0)))]) ++ [(ml, .inl (cI, 3001, .inl (fun _ => 0)))])) := hD
  refine lv_aload_n hx hb dX1_init_31 rfl (lv_at hl 0 rfl) ?_
  refine lv_sipush (v := nI 2000) hx hb dX1_init_32 (by decide) ?_
  refine rn_newa hx hb harr hK hty hP hD hS hA (by decide) (by decide) (Nat.le_of_ble_eq_true rfl) (Nat.le_of_ble_eq_true rfl) dX1_init_35 (fun md H hP hD hS => ?_)
  have hP : va_P D vwCl ((m0, .inr (1, [.ref ms, .int 0, .ref mt, .ref ml, .int 0, .null, .int 0, .null, .int 0])) :: ((((wr ++ [(ms, .inl (cI, 20000, .inl (fun _ => 0)))]) ++ [(mt, .inl (cI, 3001, .inl (fun _ => 0)))]) ++ [(ml, .inl (cI, 3001, .inl (fun _ => 0)))]) ++ [(md, .inl (cI, 2000, .inl (fun _ => 0)))])) H := hP
  have hD : va_D A ((m0, .inr (1, [.ref ms, .int 0, .ref mt, .ref ml, .int 0, .null, .int 0, .null, .int 0])) :: ((((wr ++ [(ms, .inl (cI, 20000, .inl (fun _ => 0)))]) ++ [(mt, .inl (cI, 3001, .inl (fun _ => 0)))]) ++ [(ml, .inl (cI, 3001, .inl (fun _ => 0)))]) ++ [(md, .inl (cI, 2000, .inl (fun _ => 0)))])) := hD
  refine W.widen (k := 4) (n := 28002) (by omega) (by omega) ?_
  refine va_putF (D := D) (ci := 1) (v := .ref md) (ty := .array .int) (C := RX1) (T := TX1) (N := 9) hx hb hts hin1 tyX1 tyX1_ok nmX1 hown hK hP hD hS 0 rfl rfl 5 (by decide) f19 (fun _ h9 => h9) rfl hin rfl (by decide +kernel) rfl rfl (Nat.le_of_ble_eq_true rfl) dX1_init_37 (fun H locs hP hD hS => ?_)
  have hP : va_P D vwCl ((m0, .inr (1, [.ref ms, .int 0, .ref mt, .ref ml, .int 0, .ref md, .int 0, .null, .int 0])) :: ((((wr ++ [(ms, .inl (cI, 20000, .inl (fun _ => 0)))]) ++ [(mt, .inl (cI, 3001, .inl (fun _ => 0)))]) ++ [(ml, .inl (cI, 3001, .inl (fun _ => 0)))]) ++ [(md, .inl (cI, 2000, .inl (fun _ => 0)))])) H := hP
  have hD : va_D A ((m0, .inr (1, [.ref ms, .int 0, .ref mt, .ref ml, .int 0, .ref md, .int 0, .null, .int 0])) :: ((((wr ++ [(ms, .inl (cI, 20000, .inl (fun _ => 0)))]) ++ [(mt, .inl (cI, 3001, .inl (fun _ => 0)))]) ++ [(ml, .inl (cI, 3001, .inl (fun _ => 0)))]) ++ [(md, .inl (cI, 2000, .inl (fun _ => 0)))])) := hD
  refine lv_aload_n hx hb dX1_init_40 rfl (lv_at hl 0 rfl) ?_
  refine lv_sipush (v := nI 20000) hx hb dX1_init_41 (by decide) ?_
  refine rn_newa hx hb harr hK hty hP hD hS hA (by decide) (by decide) (Nat.le_of_ble_eq_true rfl) (Nat.le_of_ble_eq_true rfl) dX1_init_44 (fun mk H hP hD hS => ?_)
  have hP : va_P D vwCl ((m0, .inr (1, [.ref ms, .int 0, .ref mt, .ref ml, .int 0, .ref md, .int 0, .null, .int 0])) :: (((((wr ++ [(ms, .inl (cI, 20000, .inl (fun _ => 0)))]) ++ [(mt, .inl (cI, 3001, .inl (fun _ => 0)))]) ++ [(ml, .inl (cI, 3001, .inl (fun _ => 0)))]) ++ [(md, .inl (cI, 2000, .inl (fun _ => 0)))]) ++ [(mk, .inl (cI, 20000, .inl (fun _ => 0)))])) H := hP
  have hD : va_D A ((m0, .inr (1, [.ref ms, .int 0, .ref mt, .ref ml, .int 0, .ref md, .int 0, .null, .int 0])) :: (((((wr ++ [(ms, .inl (cI, 20000, .inl (fun _ => 0)))]) ++ [(mt, .inl (cI, 3001, .inl (fun _ => 0)))]) ++ [(ml, .inl (cI, 3001, .inl (fun _ => 0)))]) ++ [(md, .inl (cI, 2000, .inl (fun _ => 0)))]) ++ [(mk, .inl (cI, 20000, .inl (fun _ => 0)))])) := hD
  refine W.widen (k := 5) (n := 48002) (by omega) (by omega) ?_
  refine va_putF (D := D) (ci := 1) (v := .ref mk) (ty := .array .int) (C := RX1) (T := TX1) (N := 9) hx hb hts hin1 tyX1 tyX1_ok nmX1 hown hK hP hD hS 0 rfl rfl 7 (by decide) f22 (fun _ h9 => h9) rfl hin rfl (by decide +kernel) rfl rfl (Nat.le_of_ble_eq_true rfl) dX1_init_46 (fun H locs hP hD hS => ?_)
  have hP : va_P D vwCl ((m0, .inr (1, [.ref ms, .int 0, .ref mt, .ref ml, .int 0, .ref md, .int 0, .ref mk, .int 0])) :: (((((wr ++ [(ms, .inl (cI, 20000, .inl (fun _ => 0)))]) ++ [(mt, .inl (cI, 3001, .inl (fun _ => 0)))]) ++ [(ml, .inl (cI, 3001, .inl (fun _ => 0)))]) ++ [(md, .inl (cI, 2000, .inl (fun _ => 0)))]) ++ [(mk, .inl (cI, 20000, .inl (fun _ => 0)))])) H := hP
  have hD : va_D A ((m0, .inr (1, [.ref ms, .int 0, .ref mt, .ref ml, .int 0, .ref md, .int 0, .ref mk, .int 0])) :: (((((wr ++ [(ms, .inl (cI, 20000, .inl (fun _ => 0)))]) ++ [(mt, .inl (cI, 3001, .inl (fun _ => 0)))]) ++ [(ml, .inl (cI, 3001, .inl (fun _ => 0)))]) ++ [(md, .inl (cI, 2000, .inl (fun _ => 0)))]) ++ [(mk, .inl (cI, 20000, .inl (fun _ => 0)))])) := hD
  exact mk_vret hx hb hr hlocks hP hK hD hS ⟨ms, mt, ml, md, mk, rfl⟩ dX1_init_49
end
section
/-! THE CLAIM OUT OF ONE WALK OF THE LAW'S BODY. Your part is whole_start (and what it stands on); all else here is the same for every law, but numbers. -/
def R_law : String := "NameNumbersLaw"
def lw_P (b : Addr) (xs : List Int32) (args : Array Value) (s : State) : Prop := args = #[.ref b] ∧ s.IntsAt b xs ∧ xs.length ≤ 2048 ∧ (Jvm.Cond.and given_1 narrow_1).before args s = true
def lw_Q (_ : Array Value) (s : State) (o : Outcome) (t : State) : Prop := o = .returned (some (.int 1)) ∧ Framed s o t [] 10 73018
def lw_Z (below : List Frame) (a : Array Value) (s : State) : State → Prop := fun t => ∃ o, t.status = .running ∧ Ended t below o ∧ lw_Q a s o t
/-- the law's own end, with 1 on the stack, nothing written that was there before, its room as the claim has it -/
theorem lw_ret {p : Program} {l : Launch} {e : Env} {s : State} {m : MethodId} {below : List Frame} {meth : Method} {c : Code} {b : Nat} (hx : p.tables.exec = Jvm.exec) (hb : c.code = code) (hr : meth.sig.returnType = ret) (hlocks : meth.locks = false) {pc : Nat} {H : Heap} {ls : Array Slot} (hdg : decode code pc = .ok (.ireturn, 1)) : W p l e room_1 s m #[Value.ref b] below meth c H [] 10 73018 (lw_Z below #[Value.ref b] s) (F0 m pc ls [.int 1]) := by
  intro T hT X
  obtain ⟨fs, hret, hrun, hended, hW, hframe⟩ := X.leave (v := some (.int 1)) (hlocks := hlocks) (fun h => by rw [hr] at h; cases h)
  have hmeth' : T.vm.method? m = some meth := X.method'
  refine ⟨T.setFrames fs, ?_, .returned (some (.int 1)), hrun, hended, rfl, ⟨_, rfl⟩, hW, hframe⟩
  jvm_step X.here [X.here.top, hx, hb, hdg, hmeth', hr, ret, narrow_b1]
  (try refine ⟨rfl, ?_⟩); (try refine ⟨rfl, ?_⟩)
  first | (intro acts; rw [hret _ acts rfl rfl rfl]) | rw [hret _ _ rfl rfl rfl]
  exact Steps.refl _
/-- what holds at the law's entry: the machine, the code, the tables' words (any of lw_tbl by 'hts w (by decide +kernel)'), the script of L ints xs at the cell b, what the Statement gives of the start (any of its parts by flat_of_before) -/
def lw_At (p : Program) (s : State) (m : MethodId) (meth : Method) (c : Code) (b L : Nat) (xs : Nat → Int32) : Prop :=
  p.tables.exec = Jvm.exec ∧ c.code = code ∧ meth.sig.returnType = ret ∧ c.maxLocals = 4 ∧ s.vm.findClass R_law = some m.cls ∧ (∀ w ∈ lw_tbl, w.before #[Value.ref b] s = true) ∧ va_X b L xs s s.heap ∧ b < s.heap.size ∧ meth.locks = false ∧ (Jvm.Cond.and given_1 narrow_1).before #[Value.ref b] s = true

/-- no character is below 0 -/
def sp_pos (d : List Int32) (rows : List (List Int32)) : Prop := (∀ x ∈ d, ¬ x < 0) ∧ ∀ r ∈ rows, ∀ x ∈ r, ¬ x < 0
theorem sp_mem {f : Nat → Int32} {a n : Nat} {x : Int32} (h : x ∈ sp_sl f a n) : ∃ j, j < n ∧ x = f (a + j) := by
  unfold sp_sl at h
  obtain ⟨j, hj, e⟩ := List.mem_map.mp h
  exact ⟨j, List.mem_range.mp hj, e.symm⟩
theorem sp_row_mem {rows : List (List Int32)} {k : Int32} {r : List Int32} (h : sp_row rows k = some r) : r ∈ rows := by
  unfold sp_row at h
  by_cases q : k < 1
  · rw [if_pos q] at h; cases h
  · rw [if_neg q] at h; exact List.mem_of_getElem? h
theorem ps_write {d : List Int32} {rows : List (List Int32)} {c many : Int32} (h : sp_pos d rows) : sp_pos (sp_write d c many).1 rows := by
  refine ⟨?_, h.2⟩
  unfold sp_write
  by_cases q : many < 0 ∨ nI 500 < many ∨ c < 0 ∨ nI (1114111 - many.toNatClampNeg) < c ∨ 2000 < d.length + many.toNatClampNeg + 1
  · rw [if_pos q]; exact h.1
  · rw [if_neg q]
    intro x hx
    rcases List.mem_append.mp hx with hx | hx
    · exact h.1 x hx
    · obtain ⟨j, hj, e⟩ := sp_mem hx
      have q1 : ¬ many < 0 := fun z => q (Or.inl z)
      have q2 : ¬ nI 500 < many := fun z => q (Or.inr (Or.inl z))
      have q3 : ¬ c < 0 := fun z => q (Or.inr (Or.inr (Or.inl z)))
      have q4 : ¬ nI (1114111 - many.toNatClampNeg) < c := fun z => q (Or.inr (Or.inr (Or.inr (Or.inl z))))
      obtain ⟨y, hy, rfl⟩ := nI_of q1
      obtain ⟨z, hz, rfl⟩ := nI_of q3
      rw [nI_clamp hy] at q4 hj
      rw [nI_clamp hz] at e
      have hz2 : z ≤ 1114111 - y := by
        rcases Nat.lt_or_ge (1114111 - y) z with w | w
        · exact absurd (nI_lt w hz) q4
        · exact w
      have hy2 : y ≤ 500 := by
        rcases Nat.lt_or_ge 500 y with w | w
        · exact absurd (nI_lt w hy) q2
        · exact w
      rw [e]
      exact nI_pos (by omega)
theorem ps_cut {d : List Int32} {rows : List (List Int32)} {k : Int32} (h : sp_pos d rows) : sp_pos (sp_cut d k).1 rows := by
  refine ⟨?_, h.2⟩
  unfold sp_cut
  by_cases q : k < 0 ∨ nI d.length < k
  · rw [if_pos q]; exact h.1
  · rw [if_neg q]; exact fun x hx => h.1 x (List.mem_of_mem_take hx)
theorem ps_rows {d e : List Int32} {rows : List (List Int32)} (h : sp_pos d rows) (he : ∀ x ∈ e, ¬ x < 0) : ∀ r ∈ (sp_numberOf rows e).1, ∀ x ∈ r, ¬ x < 0 := by
  unfold sp_numberOf
  cases hf : sp_fd e rows 1 with
  | some k => exact h.2
  | none =>
    show ∀ r ∈ (if rows.length < 3000 ∧ e.length + sp_sum rows ≤ 20000 then (rows ++ [e], nI (rows.length + 1)) else (rows, -1) : List (List Int32) × Int32).1, ∀ x ∈ r, ¬ x < 0
    by_cases q : rows.length < 3000 ∧ e.length + sp_sum rows ≤ 20000
    · rw [if_pos q]
      intro r hr
      rcases List.mem_append.mp hr with hr | hr
      · exact h.2 r hr
      · rw [List.mem_singleton.mp hr]; exact he
    · rw [if_neg q]; exact h.2
theorem ps_number {d : List Int32} {rows : List (List Int32)} (h : sp_pos d rows) : sp_pos (if (sp_numberOf rows d).2 = -1 then d else []) (sp_numberOf rows d).1 := by
  refine ⟨?_, ps_rows h h.1⟩
  by_cases q : (sp_numberOf rows d).2 = -1
  · rw [if_pos q]; exact h.1
  · rw [if_neg q]; intro x hx; cases hx
theorem ps_take {d : List Int32} {rows : List (List Int32)} {k : Int32} (h : sp_pos d rows) : sp_pos (sp_take_ rows d k).1 rows := by
  refine ⟨?_, h.2⟩
  cases hw : sp_row rows k with
  | none => unfold sp_take_; rw [hw]; exact h.1
  | some r =>
    rw [cn_tk_some hw]
    by_cases q : 2000 < d.length + r.length
    · rw [if_pos q]; exact h.1
    · rw [if_neg q]
      intro x hx
      rcases List.mem_append.mp hx with hx | hx
      · exact h.1 x hx
      · exact h.2 r (sp_row_mem hw) x hx
theorem ps_part {d : List Int32} {rows : List (List Int32)} {k i n : Int32} (h : sp_pos d rows) : sp_pos d (sp_part rows k i n).1 := by
  refine ⟨h.1, ?_⟩
  cases hw : sp_row rows k with
  | none => unfold sp_part; rw [hw]; exact h.2
  | some r =>
    rw [cn_pt_some hw]
    by_cases q : i < 0 ∨ nI r.length < i ∨ n < 0 ∨ nI (r.length - i.toNatClampNeg) < n
    · rw [if_pos q]; exact h.2
    · rw [if_neg q]
      exact ps_rows h (fun x hx => h.2 r (sp_row_mem hw) x (List.mem_of_mem_drop (List.mem_of_mem_take hx)))
theorem ps_clear {d : List Int32} {rows : List (List Int32)} (h : sp_pos d rows) : sp_pos d [] := ⟨h.1, fun r hr => by cases hr⟩
theorem ps_at {sg : Nat → Int32} {S : Nat → Nat} {d : List Int32} {rc : Nat} {rows : List (List Int32)} (h : sp_pos d rows) (hr : rows = cn_rows sg S 1 rc) : ∀ k, 1 ≤ k → k ≤ rc → ∀ z, z < S (k + 1) - S k → ¬ sg (S k + z) < 0 := by
  intro k h1 h2 z hz
  subst hr
  refine h.2 (cn_row sg S k) (List.mem_of_getElem? (i := k - 1) ?_) _ (List.mem_of_getElem? (i := z) (sp_get hz))
  rw [cn_rows_get (by omega)]
  congr 2
  omega
/-- the law's cells: the class's and the reference's, holding one draft and the same rows -/
def lq_I (cI : ClassId) (h0 hd hc hs m0 ms mt ml md mk : Nat) (d : List Int32) (rows : List (List Int32)) (w : va_W) : Prop := ∃ (dr ch st : Nat → Int32) (n rc : Nat) (S : Nat → Nat) (sg ta le dr2 so : Nat → Int32) (us rc2 n2 sn : Nat) (S2 : Nat → Nat), w = cn_W cI h0 hd hc hs (md_W cI m0 ms mt ml md mk [] sg ta le dr2 so us rc2 n2 sn) dr ch st n rc ∧ n ≤ 2000 ∧ cn_S st rc S ∧ d = sp_sl dr 0 n ∧ rows = cn_rows ch S 1 rc ∧ n2 ≤ 2000 ∧ sn ≤ 20000 ∧ md_S ta le us rc2 S2 ∧ d = sp_sl dr2 0 n2 ∧ rows = cn_rows sg S2 1 rc2 ∧ sp_pos d rows
abbrev lq_A (s : State) : Nat → Prop := fun q => s.heap.size ≤ q
theorem lq_0 (cI : ClassId) (h0 hd hc hs m0 ms mt ml md mk : Nat) : lq_I cI h0 hd hc hs m0 ms mt ml md mk [] [] (cn_W cI h0 hd hc hs (md_W cI m0 ms mt ml md mk [] (fun _ => 0) (fun _ => 0) (fun _ => 0) (fun _ => 0) (fun _ => 0) 0 0 0 0) (fun _ => 0) (fun _ => 0) (fun _ => 0) 0 0) := by
  have hp : sp_pos [] [] := ⟨fun x hx => absurd hx List.not_mem_nil, fun r hr => absurd hr List.not_mem_nil⟩
  exact ⟨_, _, _, _, _, fun _ => 0, _, _, _, _, _, _, _, _, _, fun _ => 0, rfl, Nat.zero_le _, ⟨rfl, fun _ _ _ => nI_0.symm, fun _ _ _ => Nat.le_refl _, Nat.zero_le _, Nat.zero_le _⟩, rfl, rfl, Nat.zero_le _, Nat.zero_le _, ⟨rfl, fun k h1 h2 => absurd h1 (by omega), fun _ _ _ => Nat.le_refl _, rfl, Nat.zero_le _, Nat.zero_le _⟩, rfl, rfl, hp⟩
theorem lq_more {L i : Nat} (hL : L ≤ 2048) (hi : i ≤ L) (h : ¬ Int32.ofNat L - nI 4 < nI i) : i + 4 ≤ L := by
  have h : ¬ nI L - nI 4 < nI i := h
  rw [Int32.lt_iff_toInt_lt, pk_sub_toInt (by omega) (by omega), nI_toInt (by omega)] at h
  omega
section LS
variable {p : Program} {l : Launch} {e : Env} {R : Room} {s : State} {m : MethodId} {args : Array Value} {below : List Frame} {meth : Method} {c : Code} {H : Heap} {locs : List Loc} {cells slots : Nat} {Q : State → Prop}
variable {cc : ByteArray} {pc : Nat} {ls : Array Slot} {rest : List Value} {A : Nat → Prop} {H0 : Heap}
theorem rn_sld (hx : p.tables.exec = Jvm.exec) (hb : c.code = cc) {b L : Nat} {xs : Nat → Int32} (hX : va_X b L xs s H0) (hbl : b < H0.size) (hbA : ¬ A b) (hS : va_S A H0 H locs) {i : Nat} (hi : i < L) (hL : L < 2 ^ 31) (hdg : decode cc pc = .ok (.iaload, 1)) (kk : W p l e R s m args below meth c H locs cells slots Q (F0 m (pc + 1) ls (.int (xs i) :: rest))) : W p l e R s m args below meth c H locs cells slots Q (F0 m pc ls (.int (nI i) :: .ref b :: rest)) := va_sld hx hb hX hbl hbA hS (vp_in_nI hi hL) hdg (by rw [nI_clamp (Nat.lt_trans hi hL)]; exact kk)
theorem lq_NS {t : Nat} (hT0 : va_T .int t 32 (fun j => .int (sp_tb.getD j 0)) A s s.heap) (hZ0 : va_Z RX0 "NAME_STARTS" "[I" (.ref t) A s s.heap) (hS : va_S A s.heap H locs) : ∀ U : State, U.heap = H → s.vm.Alike U.vm → cn_NS t U := fun U hU hv => ⟨by rw [hU]; exact va_T.moved hv ((hT0.kept hS.2.1).narrow (fun _ h => h.elim)), by rw [hU]; exact va_Z.moved hv ((hZ0.kept hS.2.1).narrow (fun _ h => h.elim))⟩
end LS
end
section
set_option maxHeartbeats 4000000 in
set_option maxRecDepth 100000 in
theorem lc_write {p : Program} {l : Launch} {e : Env} {s : State} {m : MethodId} {below : List Frame} {meth : Method} {c : Code} {b L : Nat} {xs : Nat → Int32} (hL : L ≤ 2048) (C0 : lw_At p s m meth c b L xs) {D : va_G} {tys : List (ClassId × FieldType)} {cI : ClassId} (hty : tys[0]? = some (cI, .int)) (hK : va_K D vwCl tys s) {h0 hd hc hs m0 ms mt ml md mk t : Nat} (hT0 : va_T .int t 32 (fun j => .int (sp_tb.getD j 0)) (lq_A s) s s.heap) (hZ0 : va_Z RX0 "NAME_STARTS" "[I" (.ref t) (lq_A s) s s.heap) {i : Nat} (hi : i + 4 ≤ L) {d : List Int32} {rows : List (List Int32)} {w : va_W} (hI : lq_I cI h0 hd hc hs m0 ms mt ml md mk d rows w) {H : Heap} {locs : List Loc} (hP : va_P D vwCl w H) (hD : va_D (lq_A s) w) (hS : va_S (lq_A s) s.heap H locs) {ls : Array Slot} (hl : lv_has ls 4 [(0, .ref b), (1, .ref h0), (2, .ref m0), (3, .int (nI i))]) (kk : ∀ (d' : List Int32) (rows' : List (List Int32)) (w' : va_W) (H' : Heap) (locs' : List Loc), lq_I cI h0 hd hc hs m0 ms mt ml md mk d' rows' w' → va_P D vwCl w' H' → va_D (lq_A s) w' → va_S (lq_A s) s.heap H' locs' → W p l e room_1 s m #[Value.ref b] below meth c H' locs' 10 73018 (lw_Z below #[Value.ref b] s) (F0 m 409 ls [])) : W p l e room_1 s m #[Value.ref b] below meth c H locs 10 73018 (lw_Z below #[Value.ref b] s) (F0 m 100 ls []) := by
  obtain ⟨hx, hb, hr, hml, hown, htsT, hX, hbl, hlocks, hgv⟩ := C0
  have hts : ∀ w ∈ wsL_law, w.before #[Value.ref b] s = true := fun w h => htsT w (wsL_law_in w h)
  have hown : s.vm.findClass RL = some m.cls := hown
  have hbA : ¬ lq_A s b := Nat.not_le.mpr hbl
  obtain ⟨dr, ch, st, n, rc, S, sg, ta, le, dr2, so, us, rc2, n2, sn, S2, rfl, hn, hR, hd1, hr1, hn2, hsn, hM, hd2, hr2, hpos⟩ := hI
  refine lv_aload_n hx hb dL_law_100 rfl (lv_at hl 1 rfl) ?_
  refine lv_aload_n hx hb dL_law_101 rfl (lv_at hl 0 rfl) ?_
  refine lv_iload_n hx hb dL_law_102 rfl (lv_at hl 3 rfl) ?_
  refine lv_iconst (v := nI 1) hx hb dL_law_103 (by decide) ?_
  refine rn_iadd hx hb dL_law_104 ?_
  refine rn_sld hx hb hX hbl hbA hS (by omega) (by omega) dL_law_105 ?_
  refine lv_aload_n hx hb dL_law_106 rfl (lv_at hl 0 rfl) ?_
  refine lv_iload_n hx hb dL_law_107 rfl (lv_at hl 3 rfl) ?_
  refine lv_iconst (v := nI 2) hx hb dL_law_108 (by decide) ?_
  refine rn_iadd hx hb dL_law_109 ?_
  refine rn_sld hx hb hX hbl hbA hS (by omega) (by omega) dL_law_110 ?_
  refine mu_calli (va_runV (As := [.int (xs (i + 1)), .int (xs (i + 2))]) (rest := []) ⟨hx, hb, hml, hown, hts⟩ (kx_write l D hty h0 hd hc hs (md_W cI m0 ms mt ml md mk [] sg ta le dr2 so us rc2 n2 sn) dr ch st n rc (lq_A s) S hR hn (xs (i + 1)) (xs (i + 2))) (cwV 2 hts gL_law_X0_write rfl rfl rfl (by decide +kernel) ⟨Nat.le_of_ble_eq_true rfl, Nat.le_of_ble_eq_true rfl⟩) (mu_preV hK hP hD 0 rfl rfl) rfl rfl hl.1 rfl (lv_room (Nat.le_of_ble_eq_true rfl)) dL_law_111 ⟨Nat.le_of_ble_eq_true rfl, Nat.le_of_ble_eq_true rfl⟩) hS (fun r1 w1 H locs er1 hP hD hS => ?_)
  obtain ⟨⟨dr', ch', st', n', rc', S', rfl, hn', hR', hd1', hr1'⟩, er1⟩ := er1
  refine lv_aload_n hx hb dL_law_114 rfl (lv_at hl 2 rfl) ?_
  refine lv_aload_n hx hb dL_law_115 rfl (lv_at hl 0 rfl) ?_
  refine lv_iload_n hx hb dL_law_116 rfl (lv_at hl 3 rfl) ?_
  refine lv_iconst (v := nI 1) hx hb dL_law_117 (by decide) ?_
  refine rn_iadd hx hb dL_law_118 ?_
  refine rn_sld hx hb hX hbl hbA hS (by omega) (by omega) dL_law_119 ?_
  refine lv_aload_n hx hb dL_law_120 rfl (lv_at hl 0 rfl) ?_
  refine lv_iload_n hx hb dL_law_121 rfl (lv_at hl 3 rfl) ?_
  refine lv_iconst (v := nI 2) hx hb dL_law_122 (by decide) ?_
  refine rn_iadd hx hb dL_law_123 ?_
  refine rn_sld hx hb hX hbl hbA hS (by omega) (by omega) dL_law_124 ?_
  have hPm : va_P D vwCl (md_W cI m0 ms mt ml md mk (cn_W cI h0 hd hc hs [] dr' ch' st' n' rc') sg ta le dr2 so us rc2 n2 sn) H := hP.sub [4, 5, 6, 7, 8, 9, 0, 1, 2, 3] rfl
  have hDm : va_D (lq_A s) (md_W cI m0 ms mt ml md mk (cn_W cI h0 hd hc hs [] dr' ch' st' n' rc') sg ta le dr2 so us rc2 n2 sn) := hD.sub [4, 5, 6, 7, 8, 9, 0, 1, 2, 3] (by decide) rfl
  refine mu_calli (va_runV (As := [.int (xs (i + 1)), .int (xs (i + 2))]) (rest := [.int r1]) ⟨hx, hb, hml, hown, hts⟩ (km_write l D hty m0 ms mt ml md mk (cn_W cI h0 hd hc hs [] dr' ch' st' n' rc') sg ta le dr2 so us rc2 n2 sn (lq_A s) S2 hM hn2 hsn (xs (i + 1)) (xs (i + 2))) (cwV 2 hts gL_law_X1_write rfl rfl rfl (by decide +kernel) ⟨Nat.le_of_ble_eq_true rfl, Nat.le_of_ble_eq_true rfl⟩) (mu_preV hK hPm hDm 0 rfl rfl) rfl rfl hl.1 rfl (lv_room (Nat.le_of_ble_eq_true rfl)) dL_law_125 ⟨Nat.le_of_ble_eq_true rfl, Nat.le_of_ble_eq_true rfl⟩) hS (fun r2 w2 H locs er2 hP hD hS => ?_)
  obtain ⟨⟨sg', ta', le', dr2', so', us', rc2', n2', sn', S2', rfl, hn2', hsn', hM', hd2', hr2'⟩, er2⟩ := er2
  have hP : va_P D vwCl (cn_W cI h0 hd hc hs (md_W cI m0 ms mt ml md mk [] sg' ta' le' dr2' so' us' rc2' n2' sn') dr' ch' st' n' rc') H := hP.sub [6, 7, 8, 9, 0, 1, 2, 3, 4, 5] rfl
  have hD : va_D (lq_A s) (cn_W cI h0 hd hc hs (md_W cI m0 ms mt ml md mk [] sg' ta' le' dr2' so' us' rc2' n2' sn') dr' ch' st' n' rc') := hD.sub [6, 7, 8, 9, 0, 1, 2, 3, 4, 5] (by decide) rfl
  have heq : r1 = r2 := by
    rw [er1, er2, ← hd1, ← hd2]
  refine lv_icmp_eq (tgt := 409) hx hb dL_law_128 (by decide) (fun _ => ?_) (fun z => absurd heq z)
  exact kk (sp_write d (xs (i + 1)) (xs (i + 2))).1 rows _ H locs ⟨dr', ch', st', n', rc', S', sg', ta', le', dr2', so', us', rc2', n2', sn', S2', rfl, hn', hR', (by first | (rw [hd1, hr1]; exact hd1') | (rw [hd1]; exact hd1') | (rw [hr1]; exact hd1') | exact hd1'), (hr1.trans hr1'), hn2', hsn', hM', (by first | (rw [hd2, hr2]; exact hd2') | (rw [hd2]; exact hd2') | (rw [hr2]; exact hd2') | exact hd2'), (hr2.trans hr2'), (ps_write hpos)⟩ hP hD hS
set_option maxHeartbeats 4000000 in
set_option maxRecDepth 100000 in
theorem lc_cut {p : Program} {l : Launch} {e : Env} {s : State} {m : MethodId} {below : List Frame} {meth : Method} {c : Code} {b L : Nat} {xs : Nat → Int32} (hL : L ≤ 2048) (C0 : lw_At p s m meth c b L xs) {D : va_G} {tys : List (ClassId × FieldType)} {cI : ClassId} (hty : tys[0]? = some (cI, .int)) (hK : va_K D vwCl tys s) {h0 hd hc hs m0 ms mt ml md mk t : Nat} (hT0 : va_T .int t 32 (fun j => .int (sp_tb.getD j 0)) (lq_A s) s s.heap) (hZ0 : va_Z RX0 "NAME_STARTS" "[I" (.ref t) (lq_A s) s s.heap) {i : Nat} (hi : i + 4 ≤ L) {d : List Int32} {rows : List (List Int32)} {w : va_W} (hI : lq_I cI h0 hd hc hs m0 ms mt ml md mk d rows w) {H : Heap} {locs : List Loc} (hP : va_P D vwCl w H) (hD : va_D (lq_A s) w) (hS : va_S (lq_A s) s.heap H locs) {ls : Array Slot} (hl : lv_has ls 4 [(0, .ref b), (1, .ref h0), (2, .ref m0), (3, .int (nI i))]) (kk : ∀ (d' : List Int32) (rows' : List (List Int32)) (w' : va_W) (H' : Heap) (locs' : List Loc), lq_I cI h0 hd hc hs m0 ms mt ml md mk d' rows' w' → va_P D vwCl w' H' → va_D (lq_A s) w' → va_S (lq_A s) s.heap H' locs' → W p l e room_1 s m #[Value.ref b] below meth c H' locs' 10 73018 (lw_Z below #[Value.ref b] s) (F0 m 409 ls [])) : W p l e room_1 s m #[Value.ref b] below meth c H locs 10 73018 (lw_Z below #[Value.ref b] s) (F0 m 133 ls []) := by
  obtain ⟨hx, hb, hr, hml, hown, htsT, hX, hbl, hlocks, hgv⟩ := C0
  have hts : ∀ w ∈ wsL_law, w.before #[Value.ref b] s = true := fun w h => htsT w (wsL_law_in w h)
  have hown : s.vm.findClass RL = some m.cls := hown
  have hbA : ¬ lq_A s b := Nat.not_le.mpr hbl
  obtain ⟨dr, ch, st, n, rc, S, sg, ta, le, dr2, so, us, rc2, n2, sn, S2, rfl, hn, hR, hd1, hr1, hn2, hsn, hM, hd2, hr2, hpos⟩ := hI
  refine lv_aload_n hx hb dL_law_133 rfl (lv_at hl 1 rfl) ?_
  refine lv_aload_n hx hb dL_law_134 rfl (lv_at hl 0 rfl) ?_
  refine lv_iload_n hx hb dL_law_135 rfl (lv_at hl 3 rfl) ?_
  refine lv_iconst (v := nI 1) hx hb dL_law_136 (by decide) ?_
  refine rn_iadd hx hb dL_law_137 ?_
  refine rn_sld hx hb hX hbl hbA hS (by omega) (by omega) dL_law_138 ?_
  refine mu_calli (va_runV (As := [.int (xs (i + 1))]) (rest := []) ⟨hx, hb, hml, hown, hts⟩ (kx_cut l D hty h0 hd hc hs (md_W cI m0 ms mt ml md mk [] sg ta le dr2 so us rc2 n2 sn) dr ch st n rc (lq_A s) S hR hn (xs (i + 1))) (cwV 1 hts gL_law_X0_cut rfl rfl rfl (by decide +kernel) ⟨Nat.le_of_ble_eq_true rfl, Nat.le_of_ble_eq_true rfl⟩) (mu_preV hK hP hD 0 rfl rfl) rfl rfl hl.1 rfl (lv_room (Nat.le_of_ble_eq_true rfl)) dL_law_139 ⟨Nat.le_of_ble_eq_true rfl, Nat.le_of_ble_eq_true rfl⟩) hS (fun r1 w1 H locs er1 hP hD hS => ?_)
  obtain ⟨⟨dr', ch', st', n', rc', S', rfl, hn', hR', hd1', hr1'⟩, er1⟩ := er1
  refine lv_aload_n hx hb dL_law_142 rfl (lv_at hl 2 rfl) ?_
  refine lv_aload_n hx hb dL_law_143 rfl (lv_at hl 0 rfl) ?_
  refine lv_iload_n hx hb dL_law_144 rfl (lv_at hl 3 rfl) ?_
  refine lv_iconst (v := nI 1) hx hb dL_law_145 (by decide) ?_
  refine rn_iadd hx hb dL_law_146 ?_
  refine rn_sld hx hb hX hbl hbA hS (by omega) (by omega) dL_law_147 ?_
  have hPm : va_P D vwCl (md_W cI m0 ms mt ml md mk (cn_W cI h0 hd hc hs [] dr' ch' st' n' rc') sg ta le dr2 so us rc2 n2 sn) H := hP.sub [4, 5, 6, 7, 8, 9, 0, 1, 2, 3] rfl
  have hDm : va_D (lq_A s) (md_W cI m0 ms mt ml md mk (cn_W cI h0 hd hc hs [] dr' ch' st' n' rc') sg ta le dr2 so us rc2 n2 sn) := hD.sub [4, 5, 6, 7, 8, 9, 0, 1, 2, 3] (by decide) rfl
  refine mu_calli (va_runV (As := [.int (xs (i + 1))]) (rest := [.int r1]) ⟨hx, hb, hml, hown, hts⟩ (km_cut l D hty m0 ms mt ml md mk (cn_W cI h0 hd hc hs [] dr' ch' st' n' rc') sg ta le dr2 so us rc2 n2 sn (lq_A s) S2 hM hn2 hsn (xs (i + 1))) (cwV 1 hts gL_law_X1_cut rfl rfl rfl (by decide +kernel) ⟨Nat.le_of_ble_eq_true rfl, Nat.le_of_ble_eq_true rfl⟩) (mu_preV hK hPm hDm 0 rfl rfl) rfl rfl hl.1 rfl (lv_room (Nat.le_of_ble_eq_true rfl)) dL_law_148 ⟨Nat.le_of_ble_eq_true rfl, Nat.le_of_ble_eq_true rfl⟩) hS (fun r2 w2 H locs er2 hP hD hS => ?_)
  obtain ⟨⟨sg', ta', le', dr2', so', us', rc2', n2', sn', S2', rfl, hn2', hsn', hM', hd2', hr2'⟩, er2⟩ := er2
  have hP : va_P D vwCl (cn_W cI h0 hd hc hs (md_W cI m0 ms mt ml md mk [] sg' ta' le' dr2' so' us' rc2' n2' sn') dr' ch' st' n' rc') H := hP.sub [6, 7, 8, 9, 0, 1, 2, 3, 4, 5] rfl
  have hD : va_D (lq_A s) (cn_W cI h0 hd hc hs (md_W cI m0 ms mt ml md mk [] sg' ta' le' dr2' so' us' rc2' n2' sn') dr' ch' st' n' rc') := hD.sub [6, 7, 8, 9, 0, 1, 2, 3, 4, 5] (by decide) rfl
  have heq : r1 = r2 := by
    rw [er1, er2, ← hd1, ← hd2]
  refine lv_icmp_eq (tgt := 409) hx hb dL_law_151 (by decide) (fun _ => ?_) (fun z => absurd heq z)
  exact kk (sp_cut d (xs (i + 1))).1 rows _ H locs ⟨dr', ch', st', n', rc', S', sg', ta', le', dr2', so', us', rc2', n2', sn', S2', rfl, hn', hR', (by first | (rw [hd1, hr1]; exact hd1') | (rw [hd1]; exact hd1') | (rw [hr1]; exact hd1') | exact hd1'), (hr1.trans hr1'), hn2', hsn', hM', (by first | (rw [hd2, hr2]; exact hd2') | (rw [hd2]; exact hd2') | (rw [hr2]; exact hd2') | exact hd2'), (hr2.trans hr2'), (ps_cut hpos)⟩ hP hD hS
set_option maxHeartbeats 4000000 in
set_option maxRecDepth 100000 in
theorem lc_number {p : Program} {l : Launch} {e : Env} {s : State} {m : MethodId} {below : List Frame} {meth : Method} {c : Code} {b L : Nat} {xs : Nat → Int32} (hL : L ≤ 2048) (C0 : lw_At p s m meth c b L xs) {D : va_G} {tys : List (ClassId × FieldType)} {cI : ClassId} (hty : tys[0]? = some (cI, .int)) (hK : va_K D vwCl tys s) {h0 hd hc hs m0 ms mt ml md mk t : Nat} (hT0 : va_T .int t 32 (fun j => .int (sp_tb.getD j 0)) (lq_A s) s s.heap) (hZ0 : va_Z RX0 "NAME_STARTS" "[I" (.ref t) (lq_A s) s s.heap) {i : Nat} (hi : i + 4 ≤ L) {d : List Int32} {rows : List (List Int32)} {w : va_W} (hI : lq_I cI h0 hd hc hs m0 ms mt ml md mk d rows w) {H : Heap} {locs : List Loc} (hP : va_P D vwCl w H) (hD : va_D (lq_A s) w) (hS : va_S (lq_A s) s.heap H locs) {ls : Array Slot} (hl : lv_has ls 4 [(0, .ref b), (1, .ref h0), (2, .ref m0), (3, .int (nI i))]) (kk : ∀ (d' : List Int32) (rows' : List (List Int32)) (w' : va_W) (H' : Heap) (locs' : List Loc), lq_I cI h0 hd hc hs m0 ms mt ml md mk d' rows' w' → va_P D vwCl w' H' → va_D (lq_A s) w' → va_S (lq_A s) s.heap H' locs' → W p l e room_1 s m #[Value.ref b] below meth c H' locs' 10 73018 (lw_Z below #[Value.ref b] s) (F0 m 409 ls [])) : W p l e room_1 s m #[Value.ref b] below meth c H locs 10 73018 (lw_Z below #[Value.ref b] s) (F0 m 156 ls []) := by
  obtain ⟨hx, hb, hr, hml, hown, htsT, hX, hbl, hlocks, hgv⟩ := C0
  have hts : ∀ w ∈ wsL_law, w.before #[Value.ref b] s = true := fun w h => htsT w (wsL_law_in w h)
  have hown : s.vm.findClass RL = some m.cls := hown
  have hbA : ¬ lq_A s b := Nat.not_le.mpr hbl
  obtain ⟨dr, ch, st, n, rc, S, sg, ta, le, dr2, so, us, rc2, n2, sn, S2, rfl, hn, hR, hd1, hr1, hn2, hsn, hM, hd2, hr2, hpos⟩ := hI
  refine lv_aload_n hx hb dL_law_156 rfl (lv_at hl 1 rfl) ?_
  refine mu_calli (va_runV (As := []) (rest := []) ⟨hx, hb, hml, hown, hts⟩ (kx_number l D hty h0 hd hc hs (md_W cI m0 ms mt ml md mk [] sg ta le dr2 so us rc2 n2 sn) dr ch st n rc (lq_A s) S hR hn ) (cwV 0 hts gL_law_X0_number rfl rfl rfl (by decide +kernel) ⟨Nat.le_of_ble_eq_true rfl, Nat.le_of_ble_eq_true rfl⟩) (mu_preV hK hP hD 0 rfl rfl) rfl rfl hl.1 rfl (lv_room (Nat.le_of_ble_eq_true rfl)) dL_law_157 ⟨Nat.le_of_ble_eq_true rfl, Nat.le_of_ble_eq_true rfl⟩) hS (fun r1 w1 H locs er1 hP hD hS => ?_)
  obtain ⟨⟨dr', ch', st', n', rc', S', rfl, hn', hR', hd1', hr1'⟩, er1⟩ := er1
  refine lv_aload_n hx hb dL_law_160 rfl (lv_at hl 2 rfl) ?_
  have hPm : va_P D vwCl (md_W cI m0 ms mt ml md mk (cn_W cI h0 hd hc hs [] dr' ch' st' n' rc') sg ta le dr2 so us rc2 n2 sn) H := hP.sub [4, 5, 6, 7, 8, 9, 0, 1, 2, 3] rfl
  have hDm : va_D (lq_A s) (md_W cI m0 ms mt ml md mk (cn_W cI h0 hd hc hs [] dr' ch' st' n' rc') sg ta le dr2 so us rc2 n2 sn) := hD.sub [4, 5, 6, 7, 8, 9, 0, 1, 2, 3] (by decide) rfl
  refine mu_calli (va_runV (As := []) (rest := [.int r1]) ⟨hx, hb, hml, hown, hts⟩ (km_number l D hty m0 ms mt ml md mk (cn_W cI h0 hd hc hs [] dr' ch' st' n' rc') sg ta le dr2 so us rc2 n2 sn (lq_A s) S2 hM hn2 hsn ) (cwV 0 hts gL_law_X1_number rfl rfl rfl (by decide +kernel) ⟨Nat.le_of_ble_eq_true rfl, Nat.le_of_ble_eq_true rfl⟩) (mu_preV hK hPm hDm 0 rfl rfl) rfl rfl hl.1 rfl (lv_room (Nat.le_of_ble_eq_true rfl)) dL_law_161 ⟨Nat.le_of_ble_eq_true rfl, Nat.le_of_ble_eq_true rfl⟩) hS (fun r2 w2 H locs er2 hP hD hS => ?_)
  obtain ⟨⟨sg', ta', le', dr2', so', us', rc2', n2', sn', S2', rfl, hn2', hsn', hM', hd2', hr2'⟩, er2⟩ := er2
  have hP : va_P D vwCl (cn_W cI h0 hd hc hs (md_W cI m0 ms mt ml md mk [] sg' ta' le' dr2' so' us' rc2' n2' sn') dr' ch' st' n' rc') H := hP.sub [6, 7, 8, 9, 0, 1, 2, 3, 4, 5] rfl
  have hD : va_D (lq_A s) (cn_W cI h0 hd hc hs (md_W cI m0 ms mt ml md mk [] sg' ta' le' dr2' so' us' rc2' n2' sn') dr' ch' st' n' rc') := hD.sub [6, 7, 8, 9, 0, 1, 2, 3, 4, 5] (by decide) rfl
  have heq : r1 = r2 := by
    rw [er1, er2, ← hr1, ← hr2, ← hd1, ← hd2]
  refine lv_icmp_eq (tgt := 409) hx hb dL_law_164 (by decide) (fun _ => ?_) (fun z => absurd heq z)
  rw [er1] at hd1'
  rw [er2] at hd2'
  exact kk (if (sp_numberOf rows d).2 = -1 then d else []) (sp_numberOf rows d).1 _ H locs ⟨dr', ch', st', n', rc', S', sg', ta', le', dr2', so', us', rc2', n2', sn', S2', rfl, hn', hR', (by first | (rw [hd1, hr1]; exact hd1') | (rw [hd1]; exact hd1') | (rw [hr1]; exact hd1') | exact hd1'), (by first | (rw [hr1, hd1]; exact hr1') | (rw [hr1]; exact hr1') | (rw [hd1]; exact hr1') | exact hr1'), hn2', hsn', hM', (by first | (rw [hd2, hr2]; exact hd2') | (rw [hd2]; exact hd2') | (rw [hr2]; exact hd2') | exact hd2'), (by first | (rw [hr2, hd2]; exact hr2') | (rw [hr2]; exact hr2') | (rw [hd2]; exact hr2') | exact hr2'), (ps_number hpos)⟩ hP hD hS
set_option maxHeartbeats 4000000 in
set_option maxRecDepth 100000 in
theorem lc_isKnown {p : Program} {l : Launch} {e : Env} {s : State} {m : MethodId} {below : List Frame} {meth : Method} {c : Code} {b L : Nat} {xs : Nat → Int32} (hL : L ≤ 2048) (C0 : lw_At p s m meth c b L xs) {D : va_G} {tys : List (ClassId × FieldType)} {cI : ClassId} (hty : tys[0]? = some (cI, .int)) (hK : va_K D vwCl tys s) {h0 hd hc hs m0 ms mt ml md mk t : Nat} (hT0 : va_T .int t 32 (fun j => .int (sp_tb.getD j 0)) (lq_A s) s s.heap) (hZ0 : va_Z RX0 "NAME_STARTS" "[I" (.ref t) (lq_A s) s s.heap) {i : Nat} (hi : i + 4 ≤ L) {d : List Int32} {rows : List (List Int32)} {w : va_W} (hI : lq_I cI h0 hd hc hs m0 ms mt ml md mk d rows w) {H : Heap} {locs : List Loc} (hP : va_P D vwCl w H) (hD : va_D (lq_A s) w) (hS : va_S (lq_A s) s.heap H locs) {ls : Array Slot} (hl : lv_has ls 4 [(0, .ref b), (1, .ref h0), (2, .ref m0), (3, .int (nI i))]) (kk : ∀ (d' : List Int32) (rows' : List (List Int32)) (w' : va_W) (H' : Heap) (locs' : List Loc), lq_I cI h0 hd hc hs m0 ms mt ml md mk d' rows' w' → va_P D vwCl w' H' → va_D (lq_A s) w' → va_S (lq_A s) s.heap H' locs' → W p l e room_1 s m #[Value.ref b] below meth c H' locs' 10 73018 (lw_Z below #[Value.ref b] s) (F0 m 409 ls [])) : W p l e room_1 s m #[Value.ref b] below meth c H locs 10 73018 (lw_Z below #[Value.ref b] s) (F0 m 169 ls []) := by
  obtain ⟨hx, hb, hr, hml, hown, htsT, hX, hbl, hlocks, hgv⟩ := C0
  have hts : ∀ w ∈ wsL_law, w.before #[Value.ref b] s = true := fun w h => htsT w (wsL_law_in w h)
  have hown : s.vm.findClass RL = some m.cls := hown
  have hbA : ¬ lq_A s b := Nat.not_le.mpr hbl
  obtain ⟨dr, ch, st, n, rc, S, sg, ta, le, dr2, so, us, rc2, n2, sn, S2, rfl, hn, hR, hd1, hr1, hn2, hsn, hM, hd2, hr2, hpos⟩ := hI
  refine lv_aload_n hx hb dL_law_169 rfl (lv_at hl 1 rfl) ?_
  refine vp_callSi (W.runV (As := []) (rest := []) ⟨hx, hb, hml, hown, hts⟩ (kx_isKnown l D hty h0 hd hc hs (md_W cI m0 ms mt ml md mk [] sg ta le dr2 so us rc2 n2 sn) dr ch st n rc S hR hn) (cwV 0 hts gL_law_X0_isKnown rfl rfl rfl (by decide +kernel) ⟨Nat.le_of_ble_eq_true rfl, Nat.le_of_ble_eq_true rfl⟩) (pu_preV hK hP 0 rfl rfl) rfl rfl hl.1 rfl (lv_room (Nat.le_of_ble_eq_true rfl)) dL_law_170 ⟨Nat.le_of_ble_eq_true rfl, Nat.le_of_ble_eq_true rfl⟩) (fun r1 er1 => ?_)
  refine lv_aload_n hx hb dL_law_173 rfl (lv_at hl 2 rfl) ?_
  have hPm : va_P D vwCl (md_W cI m0 ms mt ml md mk (cn_W cI h0 hd hc hs [] dr ch st n rc) sg ta le dr2 so us rc2 n2 sn) H := hP.sub [4, 5, 6, 7, 8, 9, 0, 1, 2, 3] rfl
  have hDm : va_D (lq_A s) (md_W cI m0 ms mt ml md mk (cn_W cI h0 hd hc hs [] dr ch st n rc) sg ta le dr2 so us rc2 n2 sn) := hD.sub [4, 5, 6, 7, 8, 9, 0, 1, 2, 3] (by decide) rfl
  refine mu_calli (va_runV (As := []) (rest := [.int r1]) ⟨hx, hb, hml, hown, hts⟩ (km_isKnown l D hty m0 ms mt ml md mk (cn_W cI h0 hd hc hs [] dr ch st n rc) sg ta le dr2 so us rc2 n2 sn (lq_A s) S2 hM hn2 hsn ) (cwV 0 hts gL_law_X1_isKnown rfl rfl rfl (by decide +kernel) ⟨Nat.le_of_ble_eq_true rfl, Nat.le_of_ble_eq_true rfl⟩) (mu_preV hK hPm hDm 0 rfl rfl) rfl rfl hl.1 rfl (lv_room (Nat.le_of_ble_eq_true rfl)) dL_law_174 ⟨Nat.le_of_ble_eq_true rfl, Nat.le_of_ble_eq_true rfl⟩) hS (fun r2 w2 H locs er2 hP hD hS => ?_)
  obtain ⟨⟨sg', ta', le', dr2', so', us', rc2', n2', sn', S2', rfl, hn2', hsn', hM', hd2', hr2'⟩, er2⟩ := er2
  have hP : va_P D vwCl (cn_W cI h0 hd hc hs (md_W cI m0 ms mt ml md mk [] sg' ta' le' dr2' so' us' rc2' n2' sn') dr ch st n rc) H := hP.sub [6, 7, 8, 9, 0, 1, 2, 3, 4, 5] rfl
  have hD : va_D (lq_A s) (cn_W cI h0 hd hc hs (md_W cI m0 ms mt ml md mk [] sg' ta' le' dr2' so' us' rc2' n2' sn') dr ch st n rc) := hD.sub [6, 7, 8, 9, 0, 1, 2, 3, 4, 5] (by decide) rfl
  have heq : r1 = r2 := by
    rw [er1, er2, ← hr1, ← hr2, ← hd1, ← hd2]
  refine lv_icmp_eq (tgt := 409) hx hb dL_law_177 (by decide) (fun _ => ?_) (fun z => absurd heq z)
  exact kk d rows _ H locs ⟨dr, ch, st, n, rc, S, sg', ta', le', dr2', so', us', rc2', n2', sn', S2', rfl, hn, hR, hd1, hr1, hn2', hsn', hM', (hd2.trans hd2'), (hr2.trans hr2'), hpos⟩ hP hD hS
set_option maxHeartbeats 4000000 in
set_option maxRecDepth 100000 in
theorem lc_take {p : Program} {l : Launch} {e : Env} {s : State} {m : MethodId} {below : List Frame} {meth : Method} {c : Code} {b L : Nat} {xs : Nat → Int32} (hL : L ≤ 2048) (C0 : lw_At p s m meth c b L xs) {D : va_G} {tys : List (ClassId × FieldType)} {cI : ClassId} (hty : tys[0]? = some (cI, .int)) (hK : va_K D vwCl tys s) {h0 hd hc hs m0 ms mt ml md mk t : Nat} (hT0 : va_T .int t 32 (fun j => .int (sp_tb.getD j 0)) (lq_A s) s s.heap) (hZ0 : va_Z RX0 "NAME_STARTS" "[I" (.ref t) (lq_A s) s s.heap) {i : Nat} (hi : i + 4 ≤ L) {d : List Int32} {rows : List (List Int32)} {w : va_W} (hI : lq_I cI h0 hd hc hs m0 ms mt ml md mk d rows w) {H : Heap} {locs : List Loc} (hP : va_P D vwCl w H) (hD : va_D (lq_A s) w) (hS : va_S (lq_A s) s.heap H locs) {ls : Array Slot} (hl : lv_has ls 4 [(0, .ref b), (1, .ref h0), (2, .ref m0), (3, .int (nI i))]) (kk : ∀ (d' : List Int32) (rows' : List (List Int32)) (w' : va_W) (H' : Heap) (locs' : List Loc), lq_I cI h0 hd hc hs m0 ms mt ml md mk d' rows' w' → va_P D vwCl w' H' → va_D (lq_A s) w' → va_S (lq_A s) s.heap H' locs' → W p l e room_1 s m #[Value.ref b] below meth c H' locs' 10 73018 (lw_Z below #[Value.ref b] s) (F0 m 409 ls [])) : W p l e room_1 s m #[Value.ref b] below meth c H locs 10 73018 (lw_Z below #[Value.ref b] s) (F0 m 182 ls []) := by
  obtain ⟨hx, hb, hr, hml, hown, htsT, hX, hbl, hlocks, hgv⟩ := C0
  have hts : ∀ w ∈ wsL_law, w.before #[Value.ref b] s = true := fun w h => htsT w (wsL_law_in w h)
  have hown : s.vm.findClass RL = some m.cls := hown
  have hbA : ¬ lq_A s b := Nat.not_le.mpr hbl
  obtain ⟨dr, ch, st, n, rc, S, sg, ta, le, dr2, so, us, rc2, n2, sn, S2, rfl, hn, hR, hd1, hr1, hn2, hsn, hM, hd2, hr2, hpos⟩ := hI
  refine lv_aload_n hx hb dL_law_182 rfl (lv_at hl 1 rfl) ?_
  refine lv_aload_n hx hb dL_law_183 rfl (lv_at hl 0 rfl) ?_
  refine lv_iload_n hx hb dL_law_184 rfl (lv_at hl 3 rfl) ?_
  refine lv_iconst (v := nI 1) hx hb dL_law_185 (by decide) ?_
  refine rn_iadd hx hb dL_law_186 ?_
  refine rn_sld hx hb hX hbl hbA hS (by omega) (by omega) dL_law_187 ?_
  refine mu_calli (va_runV (As := [.int (xs (i + 1))]) (rest := []) ⟨hx, hb, hml, hown, hts⟩ (kx_take l D hty h0 hd hc hs (md_W cI m0 ms mt ml md mk [] sg ta le dr2 so us rc2 n2 sn) dr ch st n rc (lq_A s) S hR hn (xs (i + 1))) (cwV 1 hts gL_law_X0_take rfl rfl rfl (by decide +kernel) ⟨Nat.le_of_ble_eq_true rfl, Nat.le_of_ble_eq_true rfl⟩) (mu_preV hK hP hD 0 rfl rfl) rfl rfl hl.1 rfl (lv_room (Nat.le_of_ble_eq_true rfl)) dL_law_188 ⟨Nat.le_of_ble_eq_true rfl, Nat.le_of_ble_eq_true rfl⟩) hS (fun r1 w1 H locs er1 hP hD hS => ?_)
  obtain ⟨⟨dr', ch', st', n', rc', S', rfl, hn', hR', hd1', hr1'⟩, er1⟩ := er1
  refine lv_aload_n hx hb dL_law_191 rfl (lv_at hl 2 rfl) ?_
  refine lv_aload_n hx hb dL_law_192 rfl (lv_at hl 0 rfl) ?_
  refine lv_iload_n hx hb dL_law_193 rfl (lv_at hl 3 rfl) ?_
  refine lv_iconst (v := nI 1) hx hb dL_law_194 (by decide) ?_
  refine rn_iadd hx hb dL_law_195 ?_
  refine rn_sld hx hb hX hbl hbA hS (by omega) (by omega) dL_law_196 ?_
  have hPm : va_P D vwCl (md_W cI m0 ms mt ml md mk (cn_W cI h0 hd hc hs [] dr' ch' st' n' rc') sg ta le dr2 so us rc2 n2 sn) H := hP.sub [4, 5, 6, 7, 8, 9, 0, 1, 2, 3] rfl
  have hDm : va_D (lq_A s) (md_W cI m0 ms mt ml md mk (cn_W cI h0 hd hc hs [] dr' ch' st' n' rc') sg ta le dr2 so us rc2 n2 sn) := hD.sub [4, 5, 6, 7, 8, 9, 0, 1, 2, 3] (by decide) rfl
  refine mu_calli (va_runV (As := [.int (xs (i + 1))]) (rest := [.int r1]) ⟨hx, hb, hml, hown, hts⟩ (km_take l D hty m0 ms mt ml md mk (cn_W cI h0 hd hc hs [] dr' ch' st' n' rc') sg ta le dr2 so us rc2 n2 sn (lq_A s) S2 hM hn2 hsn (xs (i + 1))) (cwV 1 hts gL_law_X1_take rfl rfl rfl (by decide +kernel) ⟨Nat.le_of_ble_eq_true rfl, Nat.le_of_ble_eq_true rfl⟩) (mu_preV hK hPm hDm 0 rfl rfl) rfl rfl hl.1 rfl (lv_room (Nat.le_of_ble_eq_true rfl)) dL_law_197 ⟨Nat.le_of_ble_eq_true rfl, Nat.le_of_ble_eq_true rfl⟩) hS (fun r2 w2 H locs er2 hP hD hS => ?_)
  obtain ⟨⟨sg', ta', le', dr2', so', us', rc2', n2', sn', S2', rfl, hn2', hsn', hM', hd2', hr2'⟩, er2⟩ := er2
  have hP : va_P D vwCl (cn_W cI h0 hd hc hs (md_W cI m0 ms mt ml md mk [] sg' ta' le' dr2' so' us' rc2' n2' sn') dr' ch' st' n' rc') H := hP.sub [6, 7, 8, 9, 0, 1, 2, 3, 4, 5] rfl
  have hD : va_D (lq_A s) (cn_W cI h0 hd hc hs (md_W cI m0 ms mt ml md mk [] sg' ta' le' dr2' so' us' rc2' n2' sn') dr' ch' st' n' rc') := hD.sub [6, 7, 8, 9, 0, 1, 2, 3, 4, 5] (by decide) rfl
  have heq : r1 = r2 := by
    rw [er1, er2, ← hr1, ← hr2, ← hd1, ← hd2]
  refine lv_icmp_eq (tgt := 409) hx hb dL_law_200 (by decide) (fun _ => ?_) (fun z => absurd heq z)
  exact kk (sp_take_ rows d (xs (i + 1))).1 rows _ H locs ⟨dr', ch', st', n', rc', S', sg', ta', le', dr2', so', us', rc2', n2', sn', S2', rfl, hn', hR', (by first | (rw [hd1, hr1]; exact hd1') | (rw [hd1]; exact hd1') | (rw [hr1]; exact hd1') | exact hd1'), (hr1.trans hr1'), hn2', hsn', hM', (by first | (rw [hd2, hr2]; exact hd2') | (rw [hd2]; exact hd2') | (rw [hr2]; exact hd2') | exact hd2'), (hr2.trans hr2'), (ps_take hpos)⟩ hP hD hS
set_option maxHeartbeats 4000000 in
set_option maxRecDepth 100000 in
theorem lc_rows {p : Program} {l : Launch} {e : Env} {s : State} {m : MethodId} {below : List Frame} {meth : Method} {c : Code} {b L : Nat} {xs : Nat → Int32} (hL : L ≤ 2048) (C0 : lw_At p s m meth c b L xs) {D : va_G} {tys : List (ClassId × FieldType)} {cI : ClassId} (hty : tys[0]? = some (cI, .int)) (hK : va_K D vwCl tys s) {h0 hd hc hs m0 ms mt ml md mk t : Nat} (hT0 : va_T .int t 32 (fun j => .int (sp_tb.getD j 0)) (lq_A s) s s.heap) (hZ0 : va_Z RX0 "NAME_STARTS" "[I" (.ref t) (lq_A s) s s.heap) {i : Nat} (hi : i + 4 ≤ L) {d : List Int32} {rows : List (List Int32)} {w : va_W} (hI : lq_I cI h0 hd hc hs m0 ms mt ml md mk d rows w) {H : Heap} {locs : List Loc} (hP : va_P D vwCl w H) (hD : va_D (lq_A s) w) (hS : va_S (lq_A s) s.heap H locs) {ls : Array Slot} (hl : lv_has ls 4 [(0, .ref b), (1, .ref h0), (2, .ref m0), (3, .int (nI i))]) (kk : ∀ (d' : List Int32) (rows' : List (List Int32)) (w' : va_W) (H' : Heap) (locs' : List Loc), lq_I cI h0 hd hc hs m0 ms mt ml md mk d' rows' w' → va_P D vwCl w' H' → va_D (lq_A s) w' → va_S (lq_A s) s.heap H' locs' → W p l e room_1 s m #[Value.ref b] below meth c H' locs' 10 73018 (lw_Z below #[Value.ref b] s) (F0 m 409 ls [])) : W p l e room_1 s m #[Value.ref b] below meth c H locs 10 73018 (lw_Z below #[Value.ref b] s) (F0 m 205 ls []) := by
  obtain ⟨hx, hb, hr, hml, hown, htsT, hX, hbl, hlocks, hgv⟩ := C0
  have hts : ∀ w ∈ wsL_law, w.before #[Value.ref b] s = true := fun w h => htsT w (wsL_law_in w h)
  have hown : s.vm.findClass RL = some m.cls := hown
  have hbA : ¬ lq_A s b := Nat.not_le.mpr hbl
  obtain ⟨dr, ch, st, n, rc, S, sg, ta, le, dr2, so, us, rc2, n2, sn, S2, rfl, hn, hR, hd1, hr1, hn2, hsn, hM, hd2, hr2, hpos⟩ := hI
  refine lv_aload_n hx hb dL_law_205 rfl (lv_at hl 1 rfl) ?_
  refine vp_callSi (W.runV (As := []) (rest := []) ⟨hx, hb, hml, hown, hts⟩ (kx_rows l D hty h0 hd hc hs (md_W cI m0 ms mt ml md mk [] sg ta le dr2 so us rc2 n2 sn) dr ch st n rc ) (cwV 0 hts gL_law_X0_rows rfl rfl rfl (by decide +kernel) ⟨Nat.le_of_ble_eq_true rfl, Nat.le_of_ble_eq_true rfl⟩) (pu_preV hK hP 0 rfl rfl) rfl rfl hl.1 rfl (lv_room (Nat.le_of_ble_eq_true rfl)) dL_law_206 ⟨Nat.le_of_ble_eq_true rfl, Nat.le_of_ble_eq_true rfl⟩) (fun r1 er1 => ?_)
  refine lv_aload_n hx hb dL_law_209 rfl (lv_at hl 2 rfl) ?_
  have hPm : va_P D vwCl (md_W cI m0 ms mt ml md mk (cn_W cI h0 hd hc hs [] dr ch st n rc) sg ta le dr2 so us rc2 n2 sn) H := hP.sub [4, 5, 6, 7, 8, 9, 0, 1, 2, 3] rfl
  refine vp_callSi (W.runV (As := []) (rest := [.int r1]) ⟨hx, hb, hml, hown, hts⟩ (km_rows l D hty m0 ms mt ml md mk (cn_W cI h0 hd hc hs [] dr ch st n rc) sg ta le dr2 so us rc2 n2 sn ) (cwV 0 hts gL_law_X1_rows rfl rfl rfl (by decide +kernel) ⟨Nat.le_of_ble_eq_true rfl, Nat.le_of_ble_eq_true rfl⟩) (pu_preV hK hPm 0 rfl rfl) rfl rfl hl.1 rfl (lv_room (Nat.le_of_ble_eq_true rfl)) dL_law_210 ⟨Nat.le_of_ble_eq_true rfl, Nat.le_of_ble_eq_true rfl⟩) (fun r2 er2 => ?_)
  have heq : r1 = r2 := by
    have g1 := congrArg List.length hr1
    have g2 := congrArg List.length hr2
    rw [cn_rows_len] at g1 g2
    rw [er1, er2, ← g1, ← g2]
  refine lv_icmp_eq (tgt := 409) hx hb dL_law_213 (by decide) (fun _ => ?_) (fun z => absurd heq z)
  exact kk d rows _ H locs ⟨dr, ch, st, n, rc, S, sg, ta, le, dr2, so, us, rc2, n2, sn, S2, rfl, hn, hR, hd1, hr1, hn2, hsn, hM, hd2, hr2, hpos⟩ hP hD hS
set_option maxHeartbeats 4000000 in
set_option maxRecDepth 100000 in
theorem lc_length {p : Program} {l : Launch} {e : Env} {s : State} {m : MethodId} {below : List Frame} {meth : Method} {c : Code} {b L : Nat} {xs : Nat → Int32} (hL : L ≤ 2048) (C0 : lw_At p s m meth c b L xs) {D : va_G} {tys : List (ClassId × FieldType)} {cI : ClassId} (hty : tys[0]? = some (cI, .int)) (hK : va_K D vwCl tys s) {h0 hd hc hs m0 ms mt ml md mk t : Nat} (hT0 : va_T .int t 32 (fun j => .int (sp_tb.getD j 0)) (lq_A s) s s.heap) (hZ0 : va_Z RX0 "NAME_STARTS" "[I" (.ref t) (lq_A s) s s.heap) {i : Nat} (hi : i + 4 ≤ L) {d : List Int32} {rows : List (List Int32)} {w : va_W} (hI : lq_I cI h0 hd hc hs m0 ms mt ml md mk d rows w) {H : Heap} {locs : List Loc} (hP : va_P D vwCl w H) (hD : va_D (lq_A s) w) (hS : va_S (lq_A s) s.heap H locs) {ls : Array Slot} (hl : lv_has ls 4 [(0, .ref b), (1, .ref h0), (2, .ref m0), (3, .int (nI i))]) (kk : ∀ (d' : List Int32) (rows' : List (List Int32)) (w' : va_W) (H' : Heap) (locs' : List Loc), lq_I cI h0 hd hc hs m0 ms mt ml md mk d' rows' w' → va_P D vwCl w' H' → va_D (lq_A s) w' → va_S (lq_A s) s.heap H' locs' → W p l e room_1 s m #[Value.ref b] below meth c H' locs' 10 73018 (lw_Z below #[Value.ref b] s) (F0 m 409 ls [])) : W p l e room_1 s m #[Value.ref b] below meth c H locs 10 73018 (lw_Z below #[Value.ref b] s) (F0 m 218 ls []) := by
  obtain ⟨hx, hb, hr, hml, hown, htsT, hX, hbl, hlocks, hgv⟩ := C0
  have hts : ∀ w ∈ wsL_law, w.before #[Value.ref b] s = true := fun w h => htsT w (wsL_law_in w h)
  have hown : s.vm.findClass RL = some m.cls := hown
  have hbA : ¬ lq_A s b := Nat.not_le.mpr hbl
  obtain ⟨dr, ch, st, n, rc, S, sg, ta, le, dr2, so, us, rc2, n2, sn, S2, rfl, hn, hR, hd1, hr1, hn2, hsn, hM, hd2, hr2, hpos⟩ := hI
  refine lv_aload_n hx hb dL_law_218 rfl (lv_at hl 1 rfl) ?_
  refine lv_aload_n hx hb dL_law_219 rfl (lv_at hl 0 rfl) ?_
  refine lv_iload_n hx hb dL_law_220 rfl (lv_at hl 3 rfl) ?_
  refine lv_iconst (v := nI 1) hx hb dL_law_221 (by decide) ?_
  refine rn_iadd hx hb dL_law_222 ?_
  refine rn_sld hx hb hX hbl hbA hS (by omega) (by omega) dL_law_223 ?_
  refine vp_callSi (W.runV (As := [.int (xs (i + 1))]) (rest := []) ⟨hx, hb, hml, hown, hts⟩ (kx_length l D hty h0 hd hc hs (md_W cI m0 ms mt ml md mk [] sg ta le dr2 so us rc2 n2 sn) dr ch st n rc S hR (xs (i + 1))) (cwV 1 hts gL_law_X0_length rfl rfl rfl (by decide +kernel) ⟨Nat.le_of_ble_eq_true rfl, Nat.le_of_ble_eq_true rfl⟩) (pu_preV hK hP 0 rfl rfl) rfl rfl hl.1 rfl (lv_room (Nat.le_of_ble_eq_true rfl)) dL_law_224 ⟨Nat.le_of_ble_eq_true rfl, Nat.le_of_ble_eq_true rfl⟩) (fun r1 er1 => ?_)
  refine lv_aload_n hx hb dL_law_227 rfl (lv_at hl 2 rfl) ?_
  refine lv_aload_n hx hb dL_law_228 rfl (lv_at hl 0 rfl) ?_
  refine lv_iload_n hx hb dL_law_229 rfl (lv_at hl 3 rfl) ?_
  refine lv_iconst (v := nI 1) hx hb dL_law_230 (by decide) ?_
  refine rn_iadd hx hb dL_law_231 ?_
  refine rn_sld hx hb hX hbl hbA hS (by omega) (by omega) dL_law_232 ?_
  have hPm : va_P D vwCl (md_W cI m0 ms mt ml md mk (cn_W cI h0 hd hc hs [] dr ch st n rc) sg ta le dr2 so us rc2 n2 sn) H := hP.sub [4, 5, 6, 7, 8, 9, 0, 1, 2, 3] rfl
  refine vp_callSi (W.runV (As := [.int (xs (i + 1))]) (rest := [.int r1]) ⟨hx, hb, hml, hown, hts⟩ (km_length l D hty m0 ms mt ml md mk (cn_W cI h0 hd hc hs [] dr ch st n rc) sg ta le dr2 so us rc2 n2 sn S2 hM (xs (i + 1))) (cwV 1 hts gL_law_X1_length rfl rfl rfl (by decide +kernel) ⟨Nat.le_of_ble_eq_true rfl, Nat.le_of_ble_eq_true rfl⟩) (pu_preV hK hPm 0 rfl rfl) rfl rfl hl.1 rfl (lv_room (Nat.le_of_ble_eq_true rfl)) dL_law_233 ⟨Nat.le_of_ble_eq_true rfl, Nat.le_of_ble_eq_true rfl⟩) (fun r2 er2 => ?_)
  have heq : r1 = r2 := by
    rw [er1, er2, ← hr1, ← hr2]
  refine lv_icmp_eq (tgt := 409) hx hb dL_law_236 (by decide) (fun _ => ?_) (fun z => absurd heq z)
  exact kk d rows _ H locs ⟨dr, ch, st, n, rc, S, sg, ta, le, dr2, so, us, rc2, n2, sn, S2, rfl, hn, hR, hd1, hr1, hn2, hsn, hM, hd2, hr2, hpos⟩ hP hD hS
set_option maxHeartbeats 4000000 in
set_option maxRecDepth 100000 in
theorem lc_sign {p : Program} {l : Launch} {e : Env} {s : State} {m : MethodId} {below : List Frame} {meth : Method} {c : Code} {b L : Nat} {xs : Nat → Int32} (hL : L ≤ 2048) (C0 : lw_At p s m meth c b L xs) {D : va_G} {tys : List (ClassId × FieldType)} {cI : ClassId} (hty : tys[0]? = some (cI, .int)) (hK : va_K D vwCl tys s) {h0 hd hc hs m0 ms mt ml md mk t : Nat} (hT0 : va_T .int t 32 (fun j => .int (sp_tb.getD j 0)) (lq_A s) s s.heap) (hZ0 : va_Z RX0 "NAME_STARTS" "[I" (.ref t) (lq_A s) s s.heap) {i : Nat} (hi : i + 4 ≤ L) {d : List Int32} {rows : List (List Int32)} {w : va_W} (hI : lq_I cI h0 hd hc hs m0 ms mt ml md mk d rows w) {H : Heap} {locs : List Loc} (hP : va_P D vwCl w H) (hD : va_D (lq_A s) w) (hS : va_S (lq_A s) s.heap H locs) {ls : Array Slot} (hl : lv_has ls 4 [(0, .ref b), (1, .ref h0), (2, .ref m0), (3, .int (nI i))]) (kk : ∀ (d' : List Int32) (rows' : List (List Int32)) (w' : va_W) (H' : Heap) (locs' : List Loc), lq_I cI h0 hd hc hs m0 ms mt ml md mk d' rows' w' → va_P D vwCl w' H' → va_D (lq_A s) w' → va_S (lq_A s) s.heap H' locs' → W p l e room_1 s m #[Value.ref b] below meth c H' locs' 10 73018 (lw_Z below #[Value.ref b] s) (F0 m 409 ls [])) : W p l e room_1 s m #[Value.ref b] below meth c H locs 10 73018 (lw_Z below #[Value.ref b] s) (F0 m 241 ls []) := by
  obtain ⟨hx, hb, hr, hml, hown, htsT, hX, hbl, hlocks, hgv⟩ := C0
  have hts : ∀ w ∈ wsL_law, w.before #[Value.ref b] s = true := fun w h => htsT w (wsL_law_in w h)
  have hown : s.vm.findClass RL = some m.cls := hown
  have hbA : ¬ lq_A s b := Nat.not_le.mpr hbl
  obtain ⟨dr, ch, st, n, rc, S, sg, ta, le, dr2, so, us, rc2, n2, sn, S2, rfl, hn, hR, hd1, hr1, hn2, hsn, hM, hd2, hr2, hpos⟩ := hI
  refine lv_aload_n hx hb dL_law_241 rfl (lv_at hl 1 rfl) ?_
  refine lv_aload_n hx hb dL_law_242 rfl (lv_at hl 0 rfl) ?_
  refine lv_iload_n hx hb dL_law_243 rfl (lv_at hl 3 rfl) ?_
  refine lv_iconst (v := nI 1) hx hb dL_law_244 (by decide) ?_
  refine rn_iadd hx hb dL_law_245 ?_
  refine rn_sld hx hb hX hbl hbA hS (by omega) (by omega) dL_law_246 ?_
  refine lv_aload_n hx hb dL_law_247 rfl (lv_at hl 0 rfl) ?_
  refine lv_iload_n hx hb dL_law_248 rfl (lv_at hl 3 rfl) ?_
  refine lv_iconst (v := nI 2) hx hb dL_law_249 (by decide) ?_
  refine rn_iadd hx hb dL_law_250 ?_
  refine rn_sld hx hb hX hbl hbA hS (by omega) (by omega) dL_law_251 ?_
  refine vp_callSi (W.runV (As := [.int (xs (i + 1)), .int (xs (i + 2))]) (rest := []) ⟨hx, hb, hml, hown, hts⟩ (kx_sign l D hty h0 hd hc hs (md_W cI m0 ms mt ml md mk [] sg ta le dr2 so us rc2 n2 sn) dr ch st n rc S hR (xs (i + 1)) (xs (i + 2))) (cwV 2 hts gL_law_X0_sign rfl rfl rfl (by decide +kernel) ⟨Nat.le_of_ble_eq_true rfl, Nat.le_of_ble_eq_true rfl⟩) (pu_preV hK hP 0 rfl rfl) rfl rfl hl.1 rfl (lv_room (Nat.le_of_ble_eq_true rfl)) dL_law_252 ⟨Nat.le_of_ble_eq_true rfl, Nat.le_of_ble_eq_true rfl⟩) (fun r1 er1 => ?_)
  refine lv_aload_n hx hb dL_law_255 rfl (lv_at hl 2 rfl) ?_
  refine lv_aload_n hx hb dL_law_256 rfl (lv_at hl 0 rfl) ?_
  refine lv_iload_n hx hb dL_law_257 rfl (lv_at hl 3 rfl) ?_
  refine lv_iconst (v := nI 1) hx hb dL_law_258 (by decide) ?_
  refine rn_iadd hx hb dL_law_259 ?_
  refine rn_sld hx hb hX hbl hbA hS (by omega) (by omega) dL_law_260 ?_
  refine lv_aload_n hx hb dL_law_261 rfl (lv_at hl 0 rfl) ?_
  refine lv_iload_n hx hb dL_law_262 rfl (lv_at hl 3 rfl) ?_
  refine lv_iconst (v := nI 2) hx hb dL_law_263 (by decide) ?_
  refine rn_iadd hx hb dL_law_264 ?_
  refine rn_sld hx hb hX hbl hbA hS (by omega) (by omega) dL_law_265 ?_
  have hPm : va_P D vwCl (md_W cI m0 ms mt ml md mk (cn_W cI h0 hd hc hs [] dr ch st n rc) sg ta le dr2 so us rc2 n2 sn) H := hP.sub [4, 5, 6, 7, 8, 9, 0, 1, 2, 3] rfl
  refine vp_callSi (W.runV (As := [.int (xs (i + 1)), .int (xs (i + 2))]) (rest := [.int r1]) ⟨hx, hb, hml, hown, hts⟩ (km_sign l D hty m0 ms mt ml md mk (cn_W cI h0 hd hc hs [] dr ch st n rc) sg ta le dr2 so us rc2 n2 sn S2 hM (xs (i + 1)) (xs (i + 2))) (cwV 2 hts gL_law_X1_sign rfl rfl rfl (by decide +kernel) ⟨Nat.le_of_ble_eq_true rfl, Nat.le_of_ble_eq_true rfl⟩) (pu_preV hK hPm 0 rfl rfl) rfl rfl hl.1 rfl (lv_room (Nat.le_of_ble_eq_true rfl)) dL_law_266 ⟨Nat.le_of_ble_eq_true rfl, Nat.le_of_ble_eq_true rfl⟩) (fun r2 er2 => ?_)
  have heq : r1 = r2 := by
    rw [er1, er2, ← hr1, ← hr2]
  refine lv_icmp_eq (tgt := 409) hx hb dL_law_269 (by decide) (fun _ => ?_) (fun z => absurd heq z)
  exact kk d rows _ H locs ⟨dr, ch, st, n, rc, S, sg, ta, le, dr2, so, us, rc2, n2, sn, S2, rfl, hn, hR, hd1, hr1, hn2, hsn, hM, hd2, hr2, hpos⟩ hP hD hS
set_option maxHeartbeats 4000000 in
set_option maxRecDepth 100000 in
theorem lc_compare {p : Program} {l : Launch} {e : Env} {s : State} {m : MethodId} {below : List Frame} {meth : Method} {c : Code} {b L : Nat} {xs : Nat → Int32} (hL : L ≤ 2048) (C0 : lw_At p s m meth c b L xs) {D : va_G} {tys : List (ClassId × FieldType)} {cI : ClassId} (hty : tys[0]? = some (cI, .int)) (hK : va_K D vwCl tys s) {h0 hd hc hs m0 ms mt ml md mk t : Nat} (hT0 : va_T .int t 32 (fun j => .int (sp_tb.getD j 0)) (lq_A s) s s.heap) (hZ0 : va_Z RX0 "NAME_STARTS" "[I" (.ref t) (lq_A s) s s.heap) {i : Nat} (hi : i + 4 ≤ L) {d : List Int32} {rows : List (List Int32)} {w : va_W} (hI : lq_I cI h0 hd hc hs m0 ms mt ml md mk d rows w) {H : Heap} {locs : List Loc} (hP : va_P D vwCl w H) (hD : va_D (lq_A s) w) (hS : va_S (lq_A s) s.heap H locs) {ls : Array Slot} (hl : lv_has ls 4 [(0, .ref b), (1, .ref h0), (2, .ref m0), (3, .int (nI i))]) (kk : ∀ (d' : List Int32) (rows' : List (List Int32)) (w' : va_W) (H' : Heap) (locs' : List Loc), lq_I cI h0 hd hc hs m0 ms mt ml md mk d' rows' w' → va_P D vwCl w' H' → va_D (lq_A s) w' → va_S (lq_A s) s.heap H' locs' → W p l e room_1 s m #[Value.ref b] below meth c H' locs' 10 73018 (lw_Z below #[Value.ref b] s) (F0 m 409 ls [])) : W p l e room_1 s m #[Value.ref b] below meth c H locs 10 73018 (lw_Z below #[Value.ref b] s) (F0 m 274 ls []) := by
  obtain ⟨hx, hb, hr, hml, hown, htsT, hX, hbl, hlocks, hgv⟩ := C0
  have hts : ∀ w ∈ wsL_law, w.before #[Value.ref b] s = true := fun w h => htsT w (wsL_law_in w h)
  have hown : s.vm.findClass RL = some m.cls := hown
  have hbA : ¬ lq_A s b := Nat.not_le.mpr hbl
  obtain ⟨dr, ch, st, n, rc, S, sg, ta, le, dr2, so, us, rc2, n2, sn, S2, rfl, hn, hR, hd1, hr1, hn2, hsn, hM, hd2, hr2, hpos⟩ := hI
  refine lv_aload_n hx hb dL_law_274 rfl (lv_at hl 1 rfl) ?_
  refine lv_aload_n hx hb dL_law_275 rfl (lv_at hl 0 rfl) ?_
  refine lv_iload_n hx hb dL_law_276 rfl (lv_at hl 3 rfl) ?_
  refine lv_iconst (v := nI 1) hx hb dL_law_277 (by decide) ?_
  refine rn_iadd hx hb dL_law_278 ?_
  refine rn_sld hx hb hX hbl hbA hS (by omega) (by omega) dL_law_279 ?_
  refine lv_aload_n hx hb dL_law_280 rfl (lv_at hl 0 rfl) ?_
  refine lv_iload_n hx hb dL_law_281 rfl (lv_at hl 3 rfl) ?_
  refine lv_iconst (v := nI 2) hx hb dL_law_282 (by decide) ?_
  refine rn_iadd hx hb dL_law_283 ?_
  refine rn_sld hx hb hX hbl hbA hS (by omega) (by omega) dL_law_284 ?_
  refine vp_callSi (W.runV (As := [.int (xs (i + 1)), .int (xs (i + 2))]) (rest := []) ⟨hx, hb, hml, hown, hts⟩ (kx_compare l D hty h0 hd hc hs (md_W cI m0 ms mt ml md mk [] sg ta le dr2 so us rc2 n2 sn) dr ch st n rc S hR (xs (i + 1)) (xs (i + 2))) (cwV 2 hts gL_law_X0_compare rfl rfl rfl (by decide +kernel) ⟨Nat.le_of_ble_eq_true rfl, Nat.le_of_ble_eq_true rfl⟩) (pu_preV hK hP 0 rfl rfl) rfl rfl hl.1 rfl (lv_room (Nat.le_of_ble_eq_true rfl)) dL_law_285 ⟨Nat.le_of_ble_eq_true rfl, Nat.le_of_ble_eq_true rfl⟩) (fun r1 er1 => ?_)
  refine lv_aload_n hx hb dL_law_288 rfl (lv_at hl 2 rfl) ?_
  refine lv_aload_n hx hb dL_law_289 rfl (lv_at hl 0 rfl) ?_
  refine lv_iload_n hx hb dL_law_290 rfl (lv_at hl 3 rfl) ?_
  refine lv_iconst (v := nI 1) hx hb dL_law_291 (by decide) ?_
  refine rn_iadd hx hb dL_law_292 ?_
  refine rn_sld hx hb hX hbl hbA hS (by omega) (by omega) dL_law_293 ?_
  refine lv_aload_n hx hb dL_law_294 rfl (lv_at hl 0 rfl) ?_
  refine lv_iload_n hx hb dL_law_295 rfl (lv_at hl 3 rfl) ?_
  refine lv_iconst (v := nI 2) hx hb dL_law_296 (by decide) ?_
  refine rn_iadd hx hb dL_law_297 ?_
  refine rn_sld hx hb hX hbl hbA hS (by omega) (by omega) dL_law_298 ?_
  have hPm : va_P D vwCl (md_W cI m0 ms mt ml md mk (cn_W cI h0 hd hc hs [] dr ch st n rc) sg ta le dr2 so us rc2 n2 sn) H := hP.sub [4, 5, 6, 7, 8, 9, 0, 1, 2, 3] rfl
  refine vp_callSi (W.runV (As := [.int (xs (i + 1)), .int (xs (i + 2))]) (rest := [.int r1]) ⟨hx, hb, hml, hown, hts⟩ (km_compare l D hty m0 ms mt ml md mk (cn_W cI h0 hd hc hs [] dr ch st n rc) sg ta le dr2 so us rc2 n2 sn S2 hM (ps_at hpos hr2) (xs (i + 1)) (xs (i + 2))) (cwV 2 hts gL_law_X1_compare rfl rfl rfl (by decide +kernel) ⟨Nat.le_of_ble_eq_true rfl, Nat.le_of_ble_eq_true rfl⟩) (pu_preV hK hPm 0 rfl rfl) rfl rfl hl.1 rfl (lv_room (Nat.le_of_ble_eq_true rfl)) dL_law_299 ⟨Nat.le_of_ble_eq_true rfl, Nat.le_of_ble_eq_true rfl⟩) (fun r2 er2 => ?_)
  have heq : r1 = r2 := by
    rw [er1, er2, ← hr1, ← hr2]
  refine lv_icmp_eq (tgt := 409) hx hb dL_law_302 (by decide) (fun _ => ?_) (fun z => absurd heq z)
  exact kk d rows _ H locs ⟨dr, ch, st, n, rc, S, sg, ta, le, dr2, so, us, rc2, n2, sn, S2, rfl, hn, hR, hd1, hr1, hn2, hsn, hM, hd2, hr2, hpos⟩ hP hD hS
set_option maxHeartbeats 4000000 in
set_option maxRecDepth 100000 in
theorem lc_colon {p : Program} {l : Launch} {e : Env} {s : State} {m : MethodId} {below : List Frame} {meth : Method} {c : Code} {b L : Nat} {xs : Nat → Int32} (hL : L ≤ 2048) (C0 : lw_At p s m meth c b L xs) {D : va_G} {tys : List (ClassId × FieldType)} {cI : ClassId} (hty : tys[0]? = some (cI, .int)) (hK : va_K D vwCl tys s) {h0 hd hc hs m0 ms mt ml md mk t : Nat} (hT0 : va_T .int t 32 (fun j => .int (sp_tb.getD j 0)) (lq_A s) s s.heap) (hZ0 : va_Z RX0 "NAME_STARTS" "[I" (.ref t) (lq_A s) s s.heap) {i : Nat} (hi : i + 4 ≤ L) {d : List Int32} {rows : List (List Int32)} {w : va_W} (hI : lq_I cI h0 hd hc hs m0 ms mt ml md mk d rows w) {H : Heap} {locs : List Loc} (hP : va_P D vwCl w H) (hD : va_D (lq_A s) w) (hS : va_S (lq_A s) s.heap H locs) {ls : Array Slot} (hl : lv_has ls 4 [(0, .ref b), (1, .ref h0), (2, .ref m0), (3, .int (nI i))]) (kk : ∀ (d' : List Int32) (rows' : List (List Int32)) (w' : va_W) (H' : Heap) (locs' : List Loc), lq_I cI h0 hd hc hs m0 ms mt ml md mk d' rows' w' → va_P D vwCl w' H' → va_D (lq_A s) w' → va_S (lq_A s) s.heap H' locs' → W p l e room_1 s m #[Value.ref b] below meth c H' locs' 10 73018 (lw_Z below #[Value.ref b] s) (F0 m 409 ls [])) : W p l e room_1 s m #[Value.ref b] below meth c H locs 10 73018 (lw_Z below #[Value.ref b] s) (F0 m 307 ls []) := by
  obtain ⟨hx, hb, hr, hml, hown, htsT, hX, hbl, hlocks, hgv⟩ := C0
  have hts : ∀ w ∈ wsL_law, w.before #[Value.ref b] s = true := fun w h => htsT w (wsL_law_in w h)
  have hown : s.vm.findClass RL = some m.cls := hown
  have hbA : ¬ lq_A s b := Nat.not_le.mpr hbl
  obtain ⟨dr, ch, st, n, rc, S, sg, ta, le, dr2, so, us, rc2, n2, sn, S2, rfl, hn, hR, hd1, hr1, hn2, hsn, hM, hd2, hr2, hpos⟩ := hI
  refine lv_aload_n hx hb dL_law_307 rfl (lv_at hl 1 rfl) ?_
  refine lv_aload_n hx hb dL_law_308 rfl (lv_at hl 0 rfl) ?_
  refine lv_iload_n hx hb dL_law_309 rfl (lv_at hl 3 rfl) ?_
  refine lv_iconst (v := nI 1) hx hb dL_law_310 (by decide) ?_
  refine rn_iadd hx hb dL_law_311 ?_
  refine rn_sld hx hb hX hbl hbA hS (by omega) (by omega) dL_law_312 ?_
  refine vp_callSi (W.runV (As := [.int (xs (i + 1))]) (rest := []) ⟨hx, hb, hml, hown, hts⟩ (kx_colon l D hty h0 hd hc hs (md_W cI m0 ms mt ml md mk [] sg ta le dr2 so us rc2 n2 sn) dr ch st n rc S hR t (xs (i + 1))) (cwV 1 hts gL_law_X0_colon rfl rfl rfl (by decide +kernel) ⟨Nat.le_of_ble_eq_true rfl, Nat.le_of_ble_eq_true rfl⟩) (pz_preV (cn_NS_E t) hK hP (lq_NS hT0 hZ0 hS) 0 rfl rfl) rfl rfl hl.1 rfl (lv_room (Nat.le_of_ble_eq_true rfl)) dL_law_313 ⟨Nat.le_of_ble_eq_true rfl, Nat.le_of_ble_eq_true rfl⟩) (fun r1 er1 => ?_)
  refine lv_aload_n hx hb dL_law_316 rfl (lv_at hl 2 rfl) ?_
  refine lv_aload_n hx hb dL_law_317 rfl (lv_at hl 0 rfl) ?_
  refine lv_iload_n hx hb dL_law_318 rfl (lv_at hl 3 rfl) ?_
  refine lv_iconst (v := nI 1) hx hb dL_law_319 (by decide) ?_
  refine rn_iadd hx hb dL_law_320 ?_
  refine rn_sld hx hb hX hbl hbA hS (by omega) (by omega) dL_law_321 ?_
  have hPm : va_P D vwCl (md_W cI m0 ms mt ml md mk (cn_W cI h0 hd hc hs [] dr ch st n rc) sg ta le dr2 so us rc2 n2 sn) H := hP.sub [4, 5, 6, 7, 8, 9, 0, 1, 2, 3] rfl
  refine vp_callSi (W.runV (As := [.int (xs (i + 1))]) (rest := [.int r1]) ⟨hx, hb, hml, hown, hts⟩ (km_colon l D hty m0 ms mt ml md mk (cn_W cI h0 hd hc hs [] dr ch st n rc) sg ta le dr2 so us rc2 n2 sn S2 hM (xs (i + 1))) (cwV 1 hts gL_law_X1_colon rfl rfl rfl (by decide +kernel) ⟨Nat.le_of_ble_eq_true rfl, Nat.le_of_ble_eq_true rfl⟩) (pu_preV hK hPm 0 rfl rfl) rfl rfl hl.1 rfl (lv_room (Nat.le_of_ble_eq_true rfl)) dL_law_322 ⟨Nat.le_of_ble_eq_true rfl, Nat.le_of_ble_eq_true rfl⟩) (fun r2 er2 => ?_)
  have heq : r1 = r2 := by
    rw [er1, er2, ← hr1, ← hr2]
  refine lv_icmp_eq (tgt := 409) hx hb dL_law_325 (by decide) (fun _ => ?_) (fun z => absurd heq z)
  exact kk d rows _ H locs ⟨dr, ch, st, n, rc, S, sg, ta, le, dr2, so, us, rc2, n2, sn, S2, rfl, hn, hR, hd1, hr1, hn2, hsn, hM, hd2, hr2, hpos⟩ hP hD hS
set_option maxHeartbeats 4000000 in
set_option maxRecDepth 100000 in
theorem lc_part {p : Program} {l : Launch} {e : Env} {s : State} {m : MethodId} {below : List Frame} {meth : Method} {c : Code} {b L : Nat} {xs : Nat → Int32} (hL : L ≤ 2048) (C0 : lw_At p s m meth c b L xs) {D : va_G} {tys : List (ClassId × FieldType)} {cI : ClassId} (hty : tys[0]? = some (cI, .int)) (hK : va_K D vwCl tys s) {h0 hd hc hs m0 ms mt ml md mk t : Nat} (hT0 : va_T .int t 32 (fun j => .int (sp_tb.getD j 0)) (lq_A s) s s.heap) (hZ0 : va_Z RX0 "NAME_STARTS" "[I" (.ref t) (lq_A s) s s.heap) {i : Nat} (hi : i + 4 ≤ L) {d : List Int32} {rows : List (List Int32)} {w : va_W} (hI : lq_I cI h0 hd hc hs m0 ms mt ml md mk d rows w) {H : Heap} {locs : List Loc} (hP : va_P D vwCl w H) (hD : va_D (lq_A s) w) (hS : va_S (lq_A s) s.heap H locs) {ls : Array Slot} (hl : lv_has ls 4 [(0, .ref b), (1, .ref h0), (2, .ref m0), (3, .int (nI i))]) (kk : ∀ (d' : List Int32) (rows' : List (List Int32)) (w' : va_W) (H' : Heap) (locs' : List Loc), lq_I cI h0 hd hc hs m0 ms mt ml md mk d' rows' w' → va_P D vwCl w' H' → va_D (lq_A s) w' → va_S (lq_A s) s.heap H' locs' → W p l e room_1 s m #[Value.ref b] below meth c H' locs' 10 73018 (lw_Z below #[Value.ref b] s) (F0 m 409 ls [])) : W p l e room_1 s m #[Value.ref b] below meth c H locs 10 73018 (lw_Z below #[Value.ref b] s) (F0 m 330 ls []) := by
  obtain ⟨hx, hb, hr, hml, hown, htsT, hX, hbl, hlocks, hgv⟩ := C0
  have hts : ∀ w ∈ wsL_law, w.before #[Value.ref b] s = true := fun w h => htsT w (wsL_law_in w h)
  have hown : s.vm.findClass RL = some m.cls := hown
  have hbA : ¬ lq_A s b := Nat.not_le.mpr hbl
  obtain ⟨dr, ch, st, n, rc, S, sg, ta, le, dr2, so, us, rc2, n2, sn, S2, rfl, hn, hR, hd1, hr1, hn2, hsn, hM, hd2, hr2, hpos⟩ := hI
  refine lv_aload_n hx hb dL_law_330 rfl (lv_at hl 1 rfl) ?_
  refine lv_aload_n hx hb dL_law_331 rfl (lv_at hl 0 rfl) ?_
  refine lv_iload_n hx hb dL_law_332 rfl (lv_at hl 3 rfl) ?_
  refine lv_iconst (v := nI 1) hx hb dL_law_333 (by decide) ?_
  refine rn_iadd hx hb dL_law_334 ?_
  refine rn_sld hx hb hX hbl hbA hS (by omega) (by omega) dL_law_335 ?_
  refine lv_aload_n hx hb dL_law_336 rfl (lv_at hl 0 rfl) ?_
  refine lv_iload_n hx hb dL_law_337 rfl (lv_at hl 3 rfl) ?_
  refine lv_iconst (v := nI 2) hx hb dL_law_338 (by decide) ?_
  refine rn_iadd hx hb dL_law_339 ?_
  refine rn_sld hx hb hX hbl hbA hS (by omega) (by omega) dL_law_340 ?_
  refine lv_aload_n hx hb dL_law_341 rfl (lv_at hl 0 rfl) ?_
  refine lv_iload_n hx hb dL_law_342 rfl (lv_at hl 3 rfl) ?_
  refine lv_iconst (v := nI 3) hx hb dL_law_343 (by decide) ?_
  refine rn_iadd hx hb dL_law_344 ?_
  refine rn_sld hx hb hX hbl hbA hS (by omega) (by omega) dL_law_345 ?_
  refine mu_calli (va_runV (As := [.int (xs (i + 1)), .int (xs (i + 2)), .int (xs (i + 3))]) (rest := []) ⟨hx, hb, hml, hown, hts⟩ (kx_part l D hty h0 hd hc hs (md_W cI m0 ms mt ml md mk [] sg ta le dr2 so us rc2 n2 sn) dr ch st n rc (lq_A s) S hR hn (xs (i + 1)) (xs (i + 2)) (xs (i + 3))) (cwV 3 hts gL_law_X0_part rfl rfl rfl (by decide +kernel) ⟨Nat.le_of_ble_eq_true rfl, Nat.le_of_ble_eq_true rfl⟩) (mu_preV hK hP hD 0 rfl rfl) rfl rfl hl.1 rfl (lv_room (Nat.le_of_ble_eq_true rfl)) dL_law_346 ⟨Nat.le_of_ble_eq_true rfl, Nat.le_of_ble_eq_true rfl⟩) hS (fun r1 w1 H locs er1 hP hD hS => ?_)
  obtain ⟨⟨dr', ch', st', n', rc', S', rfl, hn', hR', hd1', hr1'⟩, er1⟩ := er1
  refine lv_aload_n hx hb dL_law_349 rfl (lv_at hl 2 rfl) ?_
  refine lv_aload_n hx hb dL_law_350 rfl (lv_at hl 0 rfl) ?_
  refine lv_iload_n hx hb dL_law_351 rfl (lv_at hl 3 rfl) ?_
  refine lv_iconst (v := nI 1) hx hb dL_law_352 (by decide) ?_
  refine rn_iadd hx hb dL_law_353 ?_
  refine rn_sld hx hb hX hbl hbA hS (by omega) (by omega) dL_law_354 ?_
  refine lv_aload_n hx hb dL_law_355 rfl (lv_at hl 0 rfl) ?_
  refine lv_iload_n hx hb dL_law_356 rfl (lv_at hl 3 rfl) ?_
  refine lv_iconst (v := nI 2) hx hb dL_law_357 (by decide) ?_
  refine rn_iadd hx hb dL_law_358 ?_
  refine rn_sld hx hb hX hbl hbA hS (by omega) (by omega) dL_law_359 ?_
  refine lv_aload_n hx hb dL_law_360 rfl (lv_at hl 0 rfl) ?_
  refine lv_iload_n hx hb dL_law_361 rfl (lv_at hl 3 rfl) ?_
  refine lv_iconst (v := nI 3) hx hb dL_law_362 (by decide) ?_
  refine rn_iadd hx hb dL_law_363 ?_
  refine rn_sld hx hb hX hbl hbA hS (by omega) (by omega) dL_law_364 ?_
  have hPm : va_P D vwCl (md_W cI m0 ms mt ml md mk (cn_W cI h0 hd hc hs [] dr' ch' st' n' rc') sg ta le dr2 so us rc2 n2 sn) H := hP.sub [4, 5, 6, 7, 8, 9, 0, 1, 2, 3] rfl
  have hDm : va_D (lq_A s) (md_W cI m0 ms mt ml md mk (cn_W cI h0 hd hc hs [] dr' ch' st' n' rc') sg ta le dr2 so us rc2 n2 sn) := hD.sub [4, 5, 6, 7, 8, 9, 0, 1, 2, 3] (by decide) rfl
  refine mu_calli (va_runV (As := [.int (xs (i + 1)), .int (xs (i + 2)), .int (xs (i + 3))]) (rest := [.int r1]) ⟨hx, hb, hml, hown, htsT⟩ (km_part l D hty m0 ms mt ml md mk (cn_W cI h0 hd hc hs [] dr' ch' st' n' rc') sg ta le dr2 so us rc2 n2 sn (lq_A s) S2 hM hn2 hsn (xs (i + 1)) (xs (i + 2)) (xs (i + 3))) (cwV 3 htsT gL_law_X1_part rfl rfl rfl (by decide +kernel) ⟨Nat.le_of_ble_eq_true rfl, Nat.le_of_ble_eq_true rfl⟩) (mu_preV hK hPm hDm 0 rfl rfl) rfl rfl hl.1 rfl (lv_room (Nat.le_of_ble_eq_true rfl)) dL_law_365 ⟨Nat.le_of_ble_eq_true rfl, Nat.le_of_ble_eq_true rfl⟩) hS (fun r2 w2 H locs er2 hP hD hS => ?_)
  obtain ⟨⟨sg', ta', le', dr2', so', us', rc2', n2', sn', S2', rfl, hn2', hsn', hM', hd2', hr2'⟩, er2⟩ := er2
  have hP : va_P D vwCl (cn_W cI h0 hd hc hs (md_W cI m0 ms mt ml md mk [] sg' ta' le' dr2' so' us' rc2' n2' sn') dr' ch' st' n' rc') H := hP.sub [6, 7, 8, 9, 0, 1, 2, 3, 4, 5] rfl
  have hD : va_D (lq_A s) (cn_W cI h0 hd hc hs (md_W cI m0 ms mt ml md mk [] sg' ta' le' dr2' so' us' rc2' n2' sn') dr' ch' st' n' rc') := hD.sub [6, 7, 8, 9, 0, 1, 2, 3, 4, 5] (by decide) rfl
  have heq : r1 = r2 := by
    rw [er1, er2, ← hr1, ← hr2]
  refine lv_icmp_eq (tgt := 409) hx hb dL_law_368 (by decide) (fun _ => ?_) (fun z => absurd heq z)
  exact kk d (sp_part rows (xs (i + 1)) (xs (i + 2)) (xs (i + 3))).1 _ H locs ⟨dr', ch', st', n', rc', S', sg', ta', le', dr2', so', us', rc2', n2', sn', S2', rfl, hn', hR', (hd1.trans hd1'), (by first | (rw [hr1, hd1]; exact hr1') | (rw [hr1]; exact hr1') | (rw [hd1]; exact hr1') | exact hr1'), hn2', hsn', hM', (hd2.trans hd2'), (by first | (rw [hr2, hd2]; exact hr2') | (rw [hr2]; exact hr2') | (rw [hd2]; exact hr2') | exact hr2'), (ps_part hpos)⟩ hP hD hS
set_option maxHeartbeats 4000000 in
set_option maxRecDepth 100000 in
theorem lc_next {p : Program} {l : Launch} {e : Env} {s : State} {m : MethodId} {below : List Frame} {meth : Method} {c : Code} {b L : Nat} {xs : Nat → Int32} (hL : L ≤ 2048) (C0 : lw_At p s m meth c b L xs) {D : va_G} {tys : List (ClassId × FieldType)} {cI : ClassId} (hty : tys[0]? = some (cI, .int)) (hK : va_K D vwCl tys s) {h0 hd hc hs m0 ms mt ml md mk t : Nat} (hT0 : va_T .int t 32 (fun j => .int (sp_tb.getD j 0)) (lq_A s) s s.heap) (hZ0 : va_Z RX0 "NAME_STARTS" "[I" (.ref t) (lq_A s) s s.heap) {i : Nat} (hi : i + 4 ≤ L) {d : List Int32} {rows : List (List Int32)} {w : va_W} (hI : lq_I cI h0 hd hc hs m0 ms mt ml md mk d rows w) {H : Heap} {locs : List Loc} (hP : va_P D vwCl w H) (hD : va_D (lq_A s) w) (hS : va_S (lq_A s) s.heap H locs) {ls : Array Slot} (hl : lv_has ls 4 [(0, .ref b), (1, .ref h0), (2, .ref m0), (3, .int (nI i))]) (kk : ∀ (d' : List Int32) (rows' : List (List Int32)) (w' : va_W) (H' : Heap) (locs' : List Loc), lq_I cI h0 hd hc hs m0 ms mt ml md mk d' rows' w' → va_P D vwCl w' H' → va_D (lq_A s) w' → va_S (lq_A s) s.heap H' locs' → W p l e room_1 s m #[Value.ref b] below meth c H' locs' 10 73018 (lw_Z below #[Value.ref b] s) (F0 m 409 ls [])) : W p l e room_1 s m #[Value.ref b] below meth c H locs 10 73018 (lw_Z below #[Value.ref b] s) (F0 m 373 ls []) := by
  obtain ⟨hx, hb, hr, hml, hown, htsT, hX, hbl, hlocks, hgv⟩ := C0
  have hts : ∀ w ∈ wsL_law, w.before #[Value.ref b] s = true := fun w h => htsT w (wsL_law_in w h)
  have hown : s.vm.findClass RL = some m.cls := hown
  have hbA : ¬ lq_A s b := Nat.not_le.mpr hbl
  obtain ⟨dr, ch, st, n, rc, S, sg, ta, le, dr2, so, us, rc2, n2, sn, S2, rfl, hn, hR, hd1, hr1, hn2, hsn, hM, hd2, hr2, hpos⟩ := hI
  refine lv_aload_n hx hb dL_law_373 rfl (lv_at hl 1 rfl) ?_
  refine lv_aload_n hx hb dL_law_374 rfl (lv_at hl 0 rfl) ?_
  refine lv_iload_n hx hb dL_law_375 rfl (lv_at hl 3 rfl) ?_
  refine lv_iconst (v := nI 1) hx hb dL_law_376 (by decide) ?_
  refine rn_iadd hx hb dL_law_377 ?_
  refine rn_sld hx hb hX hbl hbA hS (by omega) (by omega) dL_law_378 ?_
  refine vp_callSi (W.runV (As := [.int (xs (i + 1))]) (rest := []) ⟨hx, hb, hml, hown, hts⟩ (kx_next l D hty h0 hd hc hs (md_W cI m0 ms mt ml md mk [] sg ta le dr2 so us rc2 n2 sn) dr ch st n rc S hR (xs (i + 1))) (cwV 1 hts gL_law_X0_next rfl rfl rfl (by decide +kernel) ⟨Nat.le_of_ble_eq_true rfl, Nat.le_of_ble_eq_true rfl⟩) (pu_preV hK hP 0 rfl rfl) rfl rfl hl.1 rfl (lv_room (Nat.le_of_ble_eq_true rfl)) dL_law_379 ⟨Nat.le_of_ble_eq_true rfl, Nat.le_of_ble_eq_true rfl⟩) (fun r1 er1 => ?_)
  refine lv_aload_n hx hb dL_law_382 rfl (lv_at hl 2 rfl) ?_
  refine lv_aload_n hx hb dL_law_383 rfl (lv_at hl 0 rfl) ?_
  refine lv_iload_n hx hb dL_law_384 rfl (lv_at hl 3 rfl) ?_
  refine lv_iconst (v := nI 1) hx hb dL_law_385 (by decide) ?_
  refine rn_iadd hx hb dL_law_386 ?_
  refine rn_sld hx hb hX hbl hbA hS (by omega) (by omega) dL_law_387 ?_
  have hPm : va_P D vwCl (md_W cI m0 ms mt ml md mk (cn_W cI h0 hd hc hs [] dr ch st n rc) sg ta le dr2 so us rc2 n2 sn) H := hP.sub [4, 5, 6, 7, 8, 9, 0, 1, 2, 3] rfl
  refine vp_callSi (W.runV (As := [.int (xs (i + 1))]) (rest := [.int r1]) ⟨hx, hb, hml, hown, htsT⟩ (km_next l D hty m0 ms mt ml md mk (cn_W cI h0 hd hc hs [] dr ch st n rc) sg ta le dr2 so us rc2 n2 sn S2 hM (ps_at hpos hr2) (xs (i + 1))) (cwV 1 htsT gL_law_X1_next rfl rfl rfl (by decide +kernel) ⟨Nat.le_of_ble_eq_true rfl, Nat.le_of_ble_eq_true rfl⟩) (pu_preV hK hPm 0 rfl rfl) rfl rfl hl.1 rfl (lv_room (Nat.le_of_ble_eq_true rfl)) dL_law_388 ⟨Nat.le_of_ble_eq_true rfl, Nat.le_of_ble_eq_true rfl⟩) (fun r2 er2 => ?_)
  have heq : r1 = r2 := by
    rw [er1, er2, ← hr1, ← hr2]
  refine lv_icmp_eq (tgt := 409) hx hb dL_law_391 (by decide) (fun _ => ?_) (fun z => absurd heq z)
  exact kk d rows _ H locs ⟨dr, ch, st, n, rc, S, sg, ta, le, dr2, so, us, rc2, n2, sn, S2, rfl, hn, hR, hd1, hr1, hn2, hsn, hM, hd2, hr2, hpos⟩ hP hD hS
set_option maxHeartbeats 4000000 in
set_option maxRecDepth 100000 in
theorem lc_clear {p : Program} {l : Launch} {e : Env} {s : State} {m : MethodId} {below : List Frame} {meth : Method} {c : Code} {b L : Nat} {xs : Nat → Int32} (hL : L ≤ 2048) (C0 : lw_At p s m meth c b L xs) {D : va_G} {tys : List (ClassId × FieldType)} {cI : ClassId} (hty : tys[0]? = some (cI, .int)) (hK : va_K D vwCl tys s) {h0 hd hc hs m0 ms mt ml md mk t : Nat} (hT0 : va_T .int t 32 (fun j => .int (sp_tb.getD j 0)) (lq_A s) s s.heap) (hZ0 : va_Z RX0 "NAME_STARTS" "[I" (.ref t) (lq_A s) s s.heap) {i : Nat} (hi : i + 4 ≤ L) {d : List Int32} {rows : List (List Int32)} {w : va_W} (hI : lq_I cI h0 hd hc hs m0 ms mt ml md mk d rows w) {H : Heap} {locs : List Loc} (hP : va_P D vwCl w H) (hD : va_D (lq_A s) w) (hS : va_S (lq_A s) s.heap H locs) {ls : Array Slot} (hl : lv_has ls 4 [(0, .ref b), (1, .ref h0), (2, .ref m0), (3, .int (nI i))]) (kk : ∀ (d' : List Int32) (rows' : List (List Int32)) (w' : va_W) (H' : Heap) (locs' : List Loc), lq_I cI h0 hd hc hs m0 ms mt ml md mk d' rows' w' → va_P D vwCl w' H' → va_D (lq_A s) w' → va_S (lq_A s) s.heap H' locs' → W p l e room_1 s m #[Value.ref b] below meth c H' locs' 10 73018 (lw_Z below #[Value.ref b] s) (F0 m 409 ls [])) : W p l e room_1 s m #[Value.ref b] below meth c H locs 10 73018 (lw_Z below #[Value.ref b] s) (F0 m 396 ls []) := by
  obtain ⟨hx, hb, hr, hml, hown, htsT, hX, hbl, hlocks, hgv⟩ := C0
  have hts : ∀ w ∈ wsL_law, w.before #[Value.ref b] s = true := fun w h => htsT w (wsL_law_in w h)
  have hown : s.vm.findClass RL = some m.cls := hown
  have hbA : ¬ lq_A s b := Nat.not_le.mpr hbl
  obtain ⟨dr, ch, st, n, rc, S, sg, ta, le, dr2, so, us, rc2, n2, sn, S2, rfl, hn, hR, hd1, hr1, hn2, hsn, hM, hd2, hr2, hpos⟩ := hI
  refine lv_aload_n hx hb dL_law_396 rfl (lv_at hl 1 rfl) ?_
  refine mu_calli (va_runV (As := []) (rest := []) ⟨hx, hb, hml, hown, hts⟩ (kx_clear l D hty h0 hd hc hs (md_W cI m0 ms mt ml md mk [] sg ta le dr2 so us rc2 n2 sn) dr ch st n rc (lq_A s) S hR hn ) (cwV 0 hts gL_law_X0_clear rfl rfl rfl (by decide +kernel) ⟨Nat.le_of_ble_eq_true rfl, Nat.le_of_ble_eq_true rfl⟩) (mu_preV hK hP hD 0 rfl rfl) rfl rfl hl.1 rfl (lv_room (Nat.le_of_ble_eq_true rfl)) dL_law_397 ⟨Nat.le_of_ble_eq_true rfl, Nat.le_of_ble_eq_true rfl⟩) hS (fun r1 w1 H locs er1 hP hD hS => ?_)
  obtain ⟨⟨dr', ch', st', n', rc', S', rfl, hn', hR', hd1', hr1'⟩, er1⟩ := er1
  refine lv_aload_n hx hb dL_law_400 rfl (lv_at hl 2 rfl) ?_
  have hPm : va_P D vwCl (md_W cI m0 ms mt ml md mk (cn_W cI h0 hd hc hs [] dr' ch' st' n' rc') sg ta le dr2 so us rc2 n2 sn) H := hP.sub [4, 5, 6, 7, 8, 9, 0, 1, 2, 3] rfl
  have hDm : va_D (lq_A s) (md_W cI m0 ms mt ml md mk (cn_W cI h0 hd hc hs [] dr' ch' st' n' rc') sg ta le dr2 so us rc2 n2 sn) := hD.sub [4, 5, 6, 7, 8, 9, 0, 1, 2, 3] (by decide) rfl
  refine mu_calli (va_runV (As := []) (rest := [.int r1]) ⟨hx, hb, hml, hown, htsT⟩ (km_clear l D hty m0 ms mt ml md mk (cn_W cI h0 hd hc hs [] dr' ch' st' n' rc') sg ta le dr2 so us rc2 n2 sn (lq_A s) S2 hM hn2 hsn ) (cwV 0 htsT gL_law_X1_clear rfl rfl rfl (by decide +kernel) ⟨Nat.le_of_ble_eq_true rfl, Nat.le_of_ble_eq_true rfl⟩) (mu_preV hK hPm hDm 0 rfl rfl) rfl rfl hl.1 rfl (lv_room (Nat.le_of_ble_eq_true rfl)) dL_law_401 ⟨Nat.le_of_ble_eq_true rfl, Nat.le_of_ble_eq_true rfl⟩) hS (fun r2 w2 H locs er2 hP hD hS => ?_)
  obtain ⟨⟨sg', ta', le', dr2', so', us', rc2', n2', sn', S2', rfl, hn2', hsn', hM', hd2', hr2'⟩, er2⟩ := er2
  have hP : va_P D vwCl (cn_W cI h0 hd hc hs (md_W cI m0 ms mt ml md mk [] sg' ta' le' dr2' so' us' rc2' n2' sn') dr' ch' st' n' rc') H := hP.sub [6, 7, 8, 9, 0, 1, 2, 3, 4, 5] rfl
  have hD : va_D (lq_A s) (cn_W cI h0 hd hc hs (md_W cI m0 ms mt ml md mk [] sg' ta' le' dr2' so' us' rc2' n2' sn') dr' ch' st' n' rc') := hD.sub [6, 7, 8, 9, 0, 1, 2, 3, 4, 5] (by decide) rfl
  have heq : r1 = r2 := by
    rw [er1, er2, ← hr1, ← hr2]
  refine lv_icmp_eq (tgt := 409) hx hb dL_law_404 (by decide) (fun _ => ?_) (fun z => absurd heq z)
  exact kk d [] _ H locs ⟨dr', ch', st', n', rc', S', sg', ta', le', dr2', so', us', rc2', n2', sn', S2', rfl, hn', hR', (hd1.trans hd1'), (by first | (rw [hr1, hd1]; exact hr1') | (rw [hr1]; exact hr1') | (rw [hd1]; exact hr1') | exact hr1'), hn2', hsn', hM', (hd2.trans hd2'), (by first | (rw [hr2, hd2]; exact hr2') | (rw [hr2]; exact hr2') | (rw [hd2]; exact hr2') | exact hr2'), (ps_clear hpos)⟩ hP hD hS
end
section
set_option maxHeartbeats 4000000 in
set_option maxRecDepth 100000 in
/-- the law's loop -/
theorem lc_loop {p : Program} {l : Launch} {e : Env} {s : State} {m : MethodId} {below : List Frame} {meth : Method} {c : Code} {b L : Nat} {xs : Nat → Int32} (hL : L ≤ 2048) (C0 : lw_At p s m meth c b L xs) {D : va_G} {tys : List (ClassId × FieldType)} {cI : ClassId} (hty : tys[0]? = some (cI, .int)) (hK : va_K D vwCl tys s) {h0 hd hc hs m0 ms mt ml md mk t : Nat} (hT0 : va_T .int t 32 (fun j => .int (sp_tb.getD j 0)) (lq_A s) s s.heap) (hZ0 : va_Z RX0 "NAME_STARTS" "[I" (.ref t) (lq_A s) s s.heap) : ∀ (j i : Nat) (d : List Int32) (rows : List (List Int32)) (w : va_W) (H : Heap) (locs : List Loc) (ls : Array Slot), L + 1 ≤ i + j → i ≤ L → lq_I cI h0 hd hc hs m0 ms mt ml md mk d rows w → va_P D vwCl w H → va_D (lq_A s) w → va_S (lq_A s) s.heap H locs → lv_has ls 4 [(0, .ref b), (1, .ref h0), (2, .ref m0), (3, .int (nI i))] → W p l e room_1 s m #[Value.ref b] below meth c H locs 10 73018 (lw_Z below #[Value.ref b] s) (F0 m 18 ls []) := by
  intro j
  induction j with
  | zero => intro i d rows w H locs ls hj hi; exfalso; omega
  | succ j ih =>
    intro i d rows w H locs ls hj hi hI hP hD hS hl
    obtain ⟨hx, hb, hr, hml, hown, htsT, hX, hbl, hlocks, hgv⟩ := id C0
    have hbA : ¬ lq_A s b := Nat.not_le.mpr hbl
    refine lv_iload_n hx hb dL_law_18 rfl (lv_at hl 3 rfl) ?_
    refine lv_aload_n hx hb dL_law_19 rfl (lv_at hl 0 rfl) ?_
    refine va_slen hx hb hX hbl hbA hS dL_law_20 ?_
    refine lv_iconst (v := nI 4) hx hb dL_law_21 (by decide) ?_
    refine lv_isub hx hb dL_law_22 ?_
    refine lv_icmp_gt (tgt := 415) hx hb dL_law_23 (by decide) (fun c_23 => ?_) (fun c_23 => ?_)
    · refine lv_iconst (v := 1) hx hb dL_law_415 (by decide) ?_
      refine va_forget (fun q hq => hS.2.2 q hq) ?_
      exact lw_ret hx hb hr hlocks dL_law_416
    · have hi4 := lq_more hL hi c_23
      have next : ∀ (d' : List Int32) (rows' : List (List Int32)) (w' : va_W) (H' : Heap) (locs' : List Loc), lq_I cI h0 hd hc hs m0 ms mt ml md mk d' rows' w' → va_P D vwCl w' H' → va_D (lq_A s) w' → va_S (lq_A s) s.heap H' locs' → W p l e room_1 s m #[Value.ref b] below meth c H' locs' 10 73018 (lw_Z below #[Value.ref b] s) (F0 m 409 ls []) := by
        intro d' rows' w' H' locs' hI' hP' hD' hS'
        refine rn_iinc (n := 4) (lv' := [(3, .int (nI (i + 4))), (0, .ref b), (1, .ref h0), (2, .ref m0)]) hx hb dL_law_409 hl (k := 3) rfl (by decide) rfl (fun ls hl => ?_)
        refine lv_goto (tgt := 18) hx hb dL_law_412 (by decide) ?_
        exact ih (i + 4) d' rows' w' H' locs' ls (by omega) hi4 hI' hP' hD' hS' (lv_sub hl [1, 2, 3, 0] rfl)
      refine lv_aload_n hx hb dL_law_26 rfl (lv_at hl 0 rfl) ?_
      refine lv_iload_n hx hb dL_law_27 rfl (lv_at hl 3 rfl) ?_
      refine rn_sld hx hb hX hbl hbA hS (by omega) (by omega) dL_law_28 ?_
      refine lv_bipush (v := nI 15) hx hb dL_law_29 (by decide) ?_
      refine lv_iand hx hb dL_law_31 ?_
      obtain ⟨v, hv, ev⟩ := pk_andE (xs i) (m := nI 15) 4 (by decide)
      rw [ev]
      have hv : v < 16 := hv
      rcases (show v = 0 ∨ v = 1 ∨ v = 2 ∨ v = 3 ∨ v = 4 ∨ v = 5 ∨ v = 6 ∨ v = 7 ∨ v = 8 ∨ v = 9 ∨ v = 10 ∨ v = 11 ∨ v = 12 ∨ v = 13 ∨ v = 14 ∨ v = 15 by omega) with rfl | rfl | rfl | rfl | rfl | rfl | rfl | rfl | rfl | rfl | rfl | rfl | rfl | rfl | rfl | rfl
      · refine lv_tableIn (tgt := 100) hx hb dL_law_32 (by decide) (by decide) (off := 68) (by decide) (by decide) ?_
        exact lc_write hL C0 hty hK hT0 hZ0 hi4 hI hP hD hS hl next
      · refine lv_tableIn (tgt := 133) hx hb dL_law_32 (by decide) (by decide) (off := 101) (by decide) (by decide) ?_
        exact lc_cut hL C0 hty hK hT0 hZ0 hi4 hI hP hD hS hl next
      · refine lv_tableIn (tgt := 156) hx hb dL_law_32 (by decide) (by decide) (off := 124) (by decide) (by decide) ?_
        exact lc_number hL C0 hty hK hT0 hZ0 hi4 hI hP hD hS hl next
      · refine lv_tableIn (tgt := 169) hx hb dL_law_32 (by decide) (by decide) (off := 137) (by decide) (by decide) ?_
        exact lc_isKnown hL C0 hty hK hT0 hZ0 hi4 hI hP hD hS hl next
      · refine lv_tableIn (tgt := 182) hx hb dL_law_32 (by decide) (by decide) (off := 150) (by decide) (by decide) ?_
        exact lc_take hL C0 hty hK hT0 hZ0 hi4 hI hP hD hS hl next
      · refine lv_tableIn (tgt := 205) hx hb dL_law_32 (by decide) (by decide) (off := 173) (by decide) (by decide) ?_
        exact lc_rows hL C0 hty hK hT0 hZ0 hi4 hI hP hD hS hl next
      · refine lv_tableIn (tgt := 218) hx hb dL_law_32 (by decide) (by decide) (off := 186) (by decide) (by decide) ?_
        exact lc_length hL C0 hty hK hT0 hZ0 hi4 hI hP hD hS hl next
      · refine lv_tableIn (tgt := 241) hx hb dL_law_32 (by decide) (by decide) (off := 209) (by decide) (by decide) ?_
        exact lc_sign hL C0 hty hK hT0 hZ0 hi4 hI hP hD hS hl next
      · refine lv_tableIn (tgt := 274) hx hb dL_law_32 (by decide) (by decide) (off := 242) (by decide) (by decide) ?_
        exact lc_compare hL C0 hty hK hT0 hZ0 hi4 hI hP hD hS hl next
      · refine lv_tableIn (tgt := 307) hx hb dL_law_32 (by decide) (by decide) (off := 275) (by decide) (by decide) ?_
        exact lc_colon hL C0 hty hK hT0 hZ0 hi4 hI hP hD hS hl next
      · refine lv_tableIn (tgt := 330) hx hb dL_law_32 (by decide) (by decide) (off := 298) (by decide) (by decide) ?_
        exact lc_part hL C0 hty hK hT0 hZ0 hi4 hI hP hD hS hl next
      · refine lv_tableIn (tgt := 373) hx hb dL_law_32 (by decide) (by decide) (off := 341) (by decide) (by decide) ?_
        exact lc_next hL C0 hty hK hT0 hZ0 hi4 hI hP hD hS hl next
      · refine lv_tableIn (tgt := 396) hx hb dL_law_32 (by decide) (by decide) (off := 364) (by decide) (by decide) ?_
        exact lc_clear hL C0 hty hK hT0 hZ0 hi4 hI hP hD hS hl next
      · refine lv_tableOut (tgt := 409) hx hb dL_law_32 (Or.inr (by decide)) (by decide) ?_
        exact next d rows w H locs hI hP hD hS
      · refine lv_tableOut (tgt := 409) hx hb dL_law_32 (Or.inr (by decide)) (by decide) ?_
        exact next d rows w H locs hI hP hD hS
      · refine lv_tableOut (tgt := 409) hx hb dL_law_32 (Or.inr (by decide)) (by decide) ?_
        exact next d rows w H locs hI hP hD hS
end
section
theorem lt_mem : ∀ j, j < 32 → (Cond.eq (.elem (.static RX0 "NAME_STARTS" "[I") (.int (Int32.ofNat j))) (.int (sp_tb.getD j 0))) ∈ flatC (Jvm.Cond.and given_1 narrow_1) := by decide +kernel
theorem lt_X0 : ∀ w ∈ u_ws RX0 TX0 5, w ∈ lw_tbl := by decide +kernel
theorem lt_X1 : ∀ w ∈ u_ws RX1 TX1 9, w ∈ lw_tbl := by decide +kernel
set_option maxHeartbeats 4000000 in
set_option maxRecDepth 100000 in
/-- THE LAW, from its entry -/
theorem whole_start {p : Program} {e : Env} {s : State} {m : MethodId} {below : List Frame} {meth : Method} {c : Code} (l : Launch) {b L : Nat} {xs : Nat → Int32} (hL : L ≤ 2048) (C0 : lw_At p s m meth c b L xs) : W p l e room_1 s m #[Value.ref b] below meth c s.heap [] 0 0 (lw_Z below #[Value.ref b] s) (entryFrame m ([Value.ref b] : List Value).toArray 4) := by
  obtain ⟨hx, hb, hr, hml, hown, htsT, hX, hbl, hlocks, hgv⟩ := id C0
  have hts : ∀ w ∈ wsL_law, w.before #[Value.ref b] s = true := fun w h => htsT w (wsL_law_in w h)
  have hown : s.vm.findClass RL = some m.cls := hown
  have hbA : ¬ lq_A s b := Nat.not_le.mpr hbl
  have hA : ∀ q : Nat, s.heap.size ≤ q → lq_A s q := fun _ h => h
  have hnA : ∀ a : Nat, a < s.heap.size → ¬ lq_A s a := fun a h => Nat.not_le.mpr h
  have hfl := flat_of_before _ hgv
  obtain ⟨t, ht, hT0⟩ := va_Tof (tm := .static RX0 "NAME_STARTS" "[I") (ty := .int) (N := 32) (f := fun j => .int (sp_tb.getD j 0)) (A := lq_A s) (by decide) (hfl _ (by decide +kernel)) (va_eqt (hfl (Cond.eq (.length (.static RX0 "NAME_STARTS" "[I")) (.int 32)) (by decide +kernel))) (fun j hj => va_eqt (hfl _ (lt_mem j hj))) hnA
  have hZ0 : va_Z RX0 "NAME_STARTS" "[I" (.ref t) (lq_A s) s s.heap := va_Zof (htsT (.laysStatic RX0 "NAME_STARTS" "[I") (by decide +kernel)) (htsT (.initialized RX0) (by decide +kernel)) ht hnA
  obtain ⟨c0, iS0, hKn0⟩ := u_known (C := RX0) (T := TX0) (N := 5) (n := 5) htsT lt_X0 (htsT (.instantiable RX0 5) (by decide +kernel))
  obtain ⟨c1, iS1, hKn1⟩ := u_known (C := RX1) (T := TX1) (N := 9) (n := 9) htsT lt_X1 (htsT (.instantiable RX1 9) (by decide +kernel))
  obtain ⟨dC, dI, hKc⟩ : ∃ (dC : Nat → ClassId) (dI : Nat → Nat → Nat), ∀ (k : Nat) (q : vw_C), vwCl[k]? = some q → u_Kn s q.1 q.2.1 q.2.2 (dC k) (dI k) := by
    refine ⟨fun k => if k = 0 then c0 else c1, fun k => if k = 0 then iS0 else iS1, ?_⟩
    intro k q hq
    match k, hq with
    | 0, hq => cases hq; exact hKn0
    | 1, hq => cases hq; exact hKn1
    | k + 2, hq => simp [vwCl] at hq
  have harr : (Cond.arrayClass .int).before #[Value.ref b] s = true := htsT (.arrayClass .int) (by decide +kernel)
  obtain ⟨cI, kI, comp, hI1, hI2, hI3⟩ := Cond.arrayClass_spec harr
  have hS : va_S (lq_A s) s.heap s.heap [] := va_S.rf
  have hK : va_K (dC, dI) vwCl [(cI, .int)] s := by
    refine ⟨hKc, fun k q h => ?_⟩
    match k, h with
    | 0, h => cases h; exact ⟨fun n z => ⟨fun k h => (by cases h), kI, hI2, comp, hI3⟩, hI1⟩
    | k + 1, h => simp at h
  have hty : ([(cI, .int)] : List (ClassId × FieldType))[0]? = some (cI, .int) := rfl
  have hP : va_P (dC, dI) vwCl [] s.heap := fun k q h => by simp at h
  have hD : va_D (lq_A s) [] := ⟨fun i j p q h => by simp at h, fun k q h => by simp at h⟩
  have hl := lv_entry ([.ref b]) (n := 4) (Nat.le_of_ble_eq_true rfl)
  rw [lg_entry_eq]
  generalize (lg_sl ([.ref b]) ++ List.replicate (4 - (lg_sl ([.ref b])).length) Slot.unset).toArray = ls at hl ⊢
  have hl : lv_has ls 4 [(0, .ref b)] := hl
  refine va_new (ci := 0) (fs := [.null, .int 0, .null, .null, .int 0]) (C := RX0) (T := TX0) (N := 5) hx hb htsT lt_X0 tyX0 tyX0_ok hown (hts (.classLink RL 7 RX0) (by decide +kernel)) (hts (.instantiable RX0 5) (by decide +kernel)) (hts (.initialized RX0) (by decide +kernel)) hK hP hD hS hA rfl (fun j hj => by rcases (show j = 0 ∨ j = 1 ∨ j = 2 ∨ j = 3 ∨ j = 4 by omega) with rfl | rfl | rfl | rfl | rfl <;> rfl) (Nat.le_of_ble_eq_true rfl) (Nat.le_of_ble_eq_true rfl) dL_law_0 (fun h0 H hP hD hS => ?_)
  have hP : va_P (dC, dI) vwCl [(h0, .inr (0, [.null, .int 0, .null, .null, .int 0]))] H := hP
  have hD : va_D (lq_A s) [(h0, .inr (0, [.null, .int 0, .null, .null, .int 0]))] := hD
  refine W.widen (k := 1) (n := 5) (by omega) (by omega) ?_
  refine lv_dup hx hb dL_law_3 rfl ?_
  refine mk_callv (va_runI (As := []) (rest := [.ref h0]) ⟨hx, hb, hml, hown, hts⟩ (kx_init l (dC, dI) hty h0 [] (lq_A s)) (cwI 0 hts gL_law_X0_init rfl rfl rfl (hts (.initialized RX0) (by decide +kernel)) (hts (.methodLink RL 9 yX0_init) (by decide +kernel)) (hts (.instanceMethod yX0_init) (by decide +kernel)) rfl (by decide +kernel) ⟨Nat.le_of_ble_eq_true rfl, Nat.le_of_ble_eq_true rfl⟩) (mk_preS hK hP hD (fun q h => Nat.le_trans hS.1 h)) rfl rfl hl.1 rfl (lv_room (Nat.le_of_ble_eq_true rfl)) dL_law_4 ⟨Nat.le_of_ble_eq_true rfl, Nat.le_of_ble_eq_true rfl⟩) hS (fun w1 H locs ew hP hD hS => ?_)
  obtain ⟨hd, hc, hs, rfl⟩ := ew
  have hP : va_P (dC, dI) vwCl (cn_W cI h0 hd hc hs [] (fun _ => 0) (fun _ => 0) (fun _ => 0) 0 0) H := hP
  have hD : va_D (lq_A s) (cn_W cI h0 hd hc hs [] (fun _ => 0) (fun _ => 0) (fun _ => 0) 0 0) := hD
  refine W.widen (k := 4) (n := 25007) (by omega) (by omega) ?_
  refine lv_astore_n (lv' := [(1, .ref h0), (0, .ref b)]) hx hb dL_law_7 rfl hl (by decide) rfl (fun ls hl => ?_)
  refine va_new (ci := 1) (fs := [.null, .int 0, .null, .null, .int 0, .null, .int 0, .null, .int 0]) (C := RX1) (T := TX1) (N := 9) hx hb htsT lt_X1 tyX1 tyX1_ok hown (hts (.classLink RL 10 RX1) (by decide +kernel)) (hts (.instantiable RX1 9) (by decide +kernel)) (hts (.initialized RX1) (by decide +kernel)) hK hP hD hS hA rfl (fun j hj => by rcases (show j = 0 ∨ j = 1 ∨ j = 2 ∨ j = 3 ∨ j = 4 ∨ j = 5 ∨ j = 6 ∨ j = 7 ∨ j = 8 by omega) with rfl | rfl | rfl | rfl | rfl | rfl | rfl | rfl | rfl <;> rfl) (Nat.le_of_ble_eq_true rfl) (Nat.le_of_ble_eq_true rfl) dL_law_8 (fun m0 H hP hD hS => ?_)
  have hP : va_P (dC, dI) vwCl ((m0, .inr (1, [.null, .int 0, .null, .null, .int 0, .null, .int 0, .null, .int 0])) :: cn_W cI h0 hd hc hs [] (fun _ => 0) (fun _ => 0) (fun _ => 0) 0 0) H := hP.sub [4, 0, 1, 2, 3] rfl
  have hD : va_D (lq_A s) ((m0, .inr (1, [.null, .int 0, .null, .null, .int 0, .null, .int 0, .null, .int 0])) :: cn_W cI h0 hd hc hs [] (fun _ => 0) (fun _ => 0) (fun _ => 0) 0 0) := hD.sub [4, 0, 1, 2, 3] (by decide) rfl
  refine W.widen (k := 5) (n := 25016) (by omega) (by omega) ?_
  refine lv_dup hx hb dL_law_11 rfl ?_
  refine mk_callv (va_runI (As := []) (rest := [.ref m0]) ⟨hx, hb, hml, hown, hts⟩ (km_init l (dC, dI) hty m0 (cn_W cI h0 hd hc hs [] (fun _ => 0) (fun _ => 0) (fun _ => 0) 0 0) (lq_A s)) (cwI 0 hts gL_law_X1_init rfl rfl rfl (hts (.initialized RX1) (by decide +kernel)) (hts (.methodLink RL 12 yX1_init) (by decide +kernel)) (hts (.instanceMethod yX1_init) (by decide +kernel)) rfl (by decide +kernel) ⟨Nat.le_of_ble_eq_true rfl, Nat.le_of_ble_eq_true rfl⟩) (mk_preS hK hP hD (fun q h => Nat.le_trans hS.1 h)) rfl rfl hl.1 rfl (lv_room (Nat.le_of_ble_eq_true rfl)) dL_law_12 ⟨Nat.le_of_ble_eq_true rfl, Nat.le_of_ble_eq_true rfl⟩) hS (fun w2 H locs ew hP hD hS => ?_)
  obtain ⟨ms, mt, ml, md, mk, rfl⟩ := ew
  have hP : va_P (dC, dI) vwCl (cn_W cI h0 hd hc hs (md_W cI m0 ms mt ml md mk [] (fun _ => 0) (fun _ => 0) (fun _ => 0) (fun _ => 0) (fun _ => 0) 0 0 0 0) (fun _ => 0) (fun _ => 0) (fun _ => 0) 0 0) H := hP.sub [1, 2, 3, 4, 0, 5, 6, 7, 8, 9] rfl
  have hD : va_D (lq_A s) (cn_W cI h0 hd hc hs (md_W cI m0 ms mt ml md mk [] (fun _ => 0) (fun _ => 0) (fun _ => 0) (fun _ => 0) (fun _ => 0) 0 0 0 0) (fun _ => 0) (fun _ => 0) (fun _ => 0) 0 0) := hD.sub [1, 2, 3, 4, 0, 5, 6, 7, 8, 9] (by decide) rfl
  refine W.widen (k := 10) (n := 73018) (by omega) (by omega) ?_
  refine lv_astore_n (lv' := [(2, .ref m0), (1, .ref h0), (0, .ref b)]) hx hb dL_law_15 rfl hl (by decide) rfl (fun ls hl => ?_)
  refine lv_iconst (v := nI 0) hx hb dL_law_16 (by decide) ?_
  refine lv_istore_n (lv' := [(3, .int (nI 0)), (2, .ref m0), (1, .ref h0), (0, .ref b)]) hx hb dL_law_17 rfl hl (by decide) rfl (fun ls hl => ?_)
  exact lc_loop hL C0 hty hK hT0 hZ0 (L + 1) 0 [] [] _ H locs ls (by omega) (Nat.zero_le L) (lq_0 cI h0 hd hc hs m0 ms mt ml md mk) hP hD hS (lv_sub hl [3, 2, 1, 0] rfl)
end
section
set_option maxHeartbeats 4000000 in
theorem lw_walk (l : Launch) (b : Addr) (xs : List Int32) : MetFree l x (headSpec (Jvm.Cond.code x code maxLocals ret :: tables_1) room_1) (lw_P b xs) (fun _ _ _ _ _ => True) lw_Q := by
  refine MetFree.of_bodyS (code := code) (maxLocals := maxLocals) (ret := ret) (by decide) ?_ ?_
  · intro args s m h hn
    obtain ⟨meth, c, h1, h2, h3, h4, h5, h6, -, -⟩ := Cond.code_spec hn (atoms_spec (ws := Jvm.Cond.code x code maxLocals ret :: tables_1) h _ List.mem_cons_self)
    exact ⟨meth, c, h1, h2, h3, h4, h5, h6⟩
  · intro p e s m args below meth c s₁ B hml0 hP _
    obtain ⟨rfl, hx, hbd, hgv⟩ := hP
    obtain ⟨scr, harrAt, hlist, hof, hsmall⟩ := hx
    obtain ⟨hcb, hkn, -, -⟩ := State.arrayAt?_spec harrAt
    have hown : s.vm.findClass R_law = some m.cls := findClass_of_methodNamed B.named
    have hts0 : ∀ c ∈ (Jvm.Cond.code x code maxLocals ret :: tables_1), c.before #[Value.ref b] s = true := atoms_spec (ws := Jvm.Cond.code x code maxLocals ret :: tables_1) B.pre
    have hts : ∀ w ∈ lw_tbl, w.before #[Value.ref b] s = true := k2_hts_sels lw_privs (fun w hw => hts0 w (List.mem_cons_of_mem _ hw)) lw_privs_ok
    have hml : c.maxLocals = 4 := B.maxLocals_eq (hts0 _ List.mem_cons_self)
    have X₀ : Stand p l e room_1 s m #[Value.ref b] below meth c s₁ [] 0 0 := Stand.of_body B
    have hh0 : s₁.heap = s.heap := by rw [B.state]; rfl
    have hsz : scr.slots.size = xs.length := by rw [← Array.length_toList, hlist, List.length_map]
    have hval : ∀ j : Nat, j < xs.length → scr.slots[j]? = some (.int (xs.getD j 0)) := fun j hj => by
      rw [← Array.getElem?_toList, hlist]
      simp [hj]
    have hbl : b < s.heap.size := (Array.getElem?_eq_some_iff.mp hcb).1
    have hX : va_X b xs.length (fun j => xs.getD j 0) s s.heap := ⟨scr, hcb, hof, hkn, hsz, hval⟩
    have K : W p l e room_1 s m #[Value.ref b] below meth c s₁.heap [] 0 0 (lw_Z below #[Value.ref b] s) (entryFrame m ([Value.ref b] : List Value).toArray 4) := by
      rw [hh0]
      exact whole_start l hbd ⟨B.exec, B.bytes, B.returns, hml, hown, hts, hX, hbl, B.notSynchronized, hgv⟩
    obtain ⟨t, a1, o, b1, b2, b3⟩ := K s₁ rfl X₀
    exact ⟨t, o, a1, b1, b2, b3⟩
theorem lw_pre_spec {args : Array Value} {s : State} (h : (Jvm.Cond.and given_1 narrow_1).before args s = true) (hr : rest_1_c.before args s = true) : ∃ (b : Addr) (xs : List Int32), lw_P b xs args s := by
  have hs := flat_of_before _ h
  have hq := flat_of_before _ hr
  have hc : (Cond.count 1).before args s = true := hs _ (by decide +kernel)
  have harr : (Cond.arrayOf (.arg 0) .int).before args s = true := hs _ (by decide +kernel)
  have hle : (Cond.le (.length (.arg 0)) (.int 2048)).before args s = true := hs _ (by decide +kernel)
  have hlen : (Cond.isInt (.length (.arg 0))).before args s = true := hq _ (by decide +kernel)
  have hall : (Cond.all (.arg 0) (.isInt (.elem (.arg 0) (.index 0)))).before args s = true := hq _ (by decide +kernel)
  obtain ⟨b, xs, hb, hx⟩ := State.ints_of_pre rfl harr hlen hall
  have hsm : xs.length < 2 ^ 31 := hx.choose_spec.2.2.2
  have hev : (Term.length (.arg 0)).eval args s none [] s = some (.int xs.length.toInt32) := hx.length_eval hb
  have hv := Cond.le_ints hev (show (Term.int 2048).eval args s none [] s = some (.int 2048) from rfl)
  have hd : xs.length.toInt32 ≤ 2048 := by
    simpa [Cond.before, Cond.holds, hv] using hle
  have hN : xs.length ≤ 2048 := (Int32.ofNat_le_ofNat hsm (by decide)).mp (show Int32.ofNat xs.length ≤ Int32.ofNat 2048 from hd)
  exact ⟨b, xs, Cond.one_arg hc (show args[0]? = some (.ref b) from hb), hx, hN, h⟩
theorem lw_comes (l : Launch) : Comes l x (Jvm.Cond.code x code maxLocals ret :: tables_1) room_1 (fun tb e args s => Calls_1 tb e args s ∧ rest_1 tb e args s ∧ Pre_1 tb e args s)
    (fun _ _ args s o t => lw_Q args s o t) := by
  intro p e ha hc hk s m args below hf hfit hheap happ hpre
  obtain ⟨b, xs, hP⟩ := lw_pre_spec hpre.2.2 hpre.2.1
  obtain ⟨k, o, h1, h2, h3, hQ⟩ := lw_walk l b xs p e ha hc hk s m args below hf ((Spec.applies_iff_loose hf).mp happ).1 hP trivial
  exact ⟨k, o, h1, h2, h3, hQ⟩
theorem lw_frame {s t : State} {o : Outcome} {args : Array Value} (h : Framed s o t [] 10 73018) :
    Framed s o t (fieldLocs frame_1_writes args s ++ arrayLocs frame_1_arrays args s ++ staticLocs frame_1_statics s) 10 73018 := h
theorem lw_limb (L : Cond) (hL : ∀ (args : Array Value) (s t : State), L.after args s (.returned (some (.int 1))) t = true) :
    ArmFor flags0 classFile x code maxLocals ret World_1 tables_1 room_1 Calls_1 rest_1 Pre_1
      (fun tb e a s o t => postC L tb e a s o t ∧ Framed s o t (fieldLocs frame_1_writes a s ++ arrayLocs frame_1_arrays a s ++ staticLocs frame_1_statics s) 10 73018) := by
  intro l _ _ _ p e ha hc hk s m args below hf hfit hheap happ hpre
  obtain ⟨k, o, h1, h2, h3, rfl, hF⟩ := lw_comes l p e ha hc hk s m args below hf hfit hheap happ hpre
  exact ⟨k, _, h1, h2, h3, hL args s _, lw_frame hF⟩
theorem i_vc : Claimed_1_1 ∧ Claimed_1_2 := ⟨lw_limb limb_1_1 (fun args s t => by simp [limb_1_1, Cond.after, Cond.holds, Cond.value]), lw_limb limb_1_2 (fun args s t => Cond.after_iff.mpr (by
  first | (rw [show limb_1_2 = Cond.eq .result (.int 1) from rfl, Cond.eq_ints (x := 1) (y := 1) rfl rfl]; simp; done) | (simp [limb_1_2, Cond.value, Term.eval]; done)))⟩
end
