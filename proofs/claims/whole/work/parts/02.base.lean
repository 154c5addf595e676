
theorem z_sw {x k : Int32} {ps : List (Int × Int)} {d o : Int} (h : x = k) (e : Op.lookupswitch.offset ps d k.toInt = o) : Op.lookupswitch.offset ps d x.toInt = o := by rw [h]; exact e
def zrm (d : Nat) : Room := { frames := d, cells := 0, slots := 0, locals := 40 * d }
theorem z_Dof {A : Nat → Prop} {ws : va_W} (h : (ws.map Prod.fst).Nodup) (hA : ∀ a ∈ ws.map Prod.fst, A a) : va_D A ws := by
  refine ⟨fun i j p q hi hj e => ?_, fun k q hk => hA _ (List.mem_map.mpr ⟨q, List.mem_of_getElem? hk, rfl⟩)⟩
  have hl : i < (ws.map Prod.fst).length := by rw [List.length_map]; exact (List.getElem?_eq_some_iff.mp hi).1
  refine (List.getElem?_inj (j := j) hl h).mp ?_
  rw [List.getElem?_map, List.getElem?_map, hi, hj]
  exact congrArg some e
section ZBase
variable {p : Program} {l : Launch} {e : Env} {R : Room} {s : State} {m : MethodId} {args : Array Value} {below : List Frame} {meth : Method} {c : Code} {cc : ByteArray} {pc : Nat} {ls : Array Slot}
theorem z_sret {ty : FieldType} {r v : Int32} (hx : p.tables.exec = Jvm.exec) (hb : c.code = cc) (hr : meth.sig.returnType = some ty) (hn : narrow ty (.int v) = .int v) (hlk : meth.locks = false) (er : r = v) (hdg : decode cc pc = .ok (.ireturn, 1)) :
    W p l e R s m args below meth c s.heap [] 0 0 (MQ below (QcRead r) args s 0 0 (fun _ => False)) (F0 m pc ls [.int v]) := by
  subst er
  exact W.zret hx hb hr hn (fun t ht _ => ⟨rfl, ht⟩) (fun q h => by cases h) hdg (hlocks := hlk)
end ZBase
theorem z_enterS {l : Launch} {y : MethodName} {cc : ByteArray} {maxL : Nat} {ret : Option FieldType} {av : List Value} {r : Int32} {ws' : List Cond} (hy : plainName y.cls = true) (hm : (lg_sl av).length ≤ maxL)
    (body : ∀ (p : Program) (e : Env) (s : State) (m : MethodId) (below : List Frame) (meth : Method) (c : Code) (ls : Array Slot), p.tables.exec = Jvm.exec → c.code = cc → meth.sig.returnType = ret → meth.locks = false → lv_has ls maxL (lv_args 0 av) →
      W p l e (zrm 0) s m av.toArray below meth c s.heap [] 0 0 (MQ below (QcRead r) av.toArray s 0 0 (fun _ => False)) (F0 m 0 ls [])) :
    Met l y (.code y cc maxL ret :: ws') (zrm 0) (fun a _ => a = av.toArray) (QcRead r) 0 0 (fun _ => False) := by
  refine Met.ofW (cc := cc) (maxL := maxL) (ret := ret) hy rfl ?_
  intro p e s m args below meth c s₁ B hml hv
  subst hv
  rw [lg_entry_eq]
  exact body p e s m below meth c _ B.exec B.bytes B.returns B.notSynchronized (lv_entry av hm)
abbrev Zxk : Type := va_G × Nat × Nat × Nat × ClassId × ClassId
def zxa_this (k : Zxk) : Nat := k.2.1
def zxa_words (k : Zxk) : Nat := k.2.2.1
def zxa_bytes (k : Zxk) : Nat := k.2.2.2.1
def zxc_words (k : Zxk) : ClassId := k.2.2.2.2.1
def zxc_bytes (k : Zxk) : ClassId := k.2.2.2.2.2
abbrev Zxs : Type := (Nat → Int32) × (Nat → Int32) × Int32 × Int32 × Int32 × Int32 × Int32 × Int32 × Int32 × Int32
def zxg_words (u : Zxs) : (Nat → Int32) := u.1
def zxs_words (u : Zxs) (v : (Nat → Int32)) : Zxs := (v, u.2)
def zxg_bytes (u : Zxs) : (Nat → Int32) := u.2.1
def zxs_bytes (u : Zxs) (v : (Nat → Int32)) : Zxs := (u.1, v, u.2.2)
def zxg_pc (u : Zxs) : Int32 := u.2.2.1
def zxs_pc (u : Zxs) (v : Int32) : Zxs := (u.1, u.2.1, v, u.2.2.2)
def zxg_sp (u : Zxs) : Int32 := u.2.2.2.1
def zxs_sp (u : Zxs) (v : Int32) : Zxs := (u.1, u.2.1, u.2.2.1, v, u.2.2.2.2)
def zxg_lv (u : Zxs) : Int32 := u.2.2.2.2.1
def zxs_lv (u : Zxs) (v : Int32) : Zxs := (u.1, u.2.1, u.2.2.1, u.2.2.2.1, v, u.2.2.2.2.2)
def zxg_cpp (u : Zxs) : Int32 := u.2.2.2.2.2.1
def zxs_cpp (u : Zxs) (v : Int32) : Zxs := (u.1, u.2.1, u.2.2.1, u.2.2.2.1, u.2.2.2.2.1, v, u.2.2.2.2.2.2)
def zxg_top (u : Zxs) : Int32 := u.2.2.2.2.2.2.1
def zxs_top (u : Zxs) (v : Int32) : Zxs := (u.1, u.2.1, u.2.2.1, u.2.2.2.1, u.2.2.2.2.1, u.2.2.2.2.2.1, v, u.2.2.2.2.2.2.2)
def zxg_state (u : Zxs) : Int32 := u.2.2.2.2.2.2.2.1
def zxs_state (u : Zxs) (v : Int32) : Zxs := (u.1, u.2.1, u.2.2.1, u.2.2.2.1, u.2.2.2.2.1, u.2.2.2.2.2.1, u.2.2.2.2.2.2.1, v, u.2.2.2.2.2.2.2.2)
def zxg_cycles (u : Zxs) : Int32 := u.2.2.2.2.2.2.2.2.1
def zxs_cycles (u : Zxs) (v : Int32) : Zxs := (u.1, u.2.1, u.2.2.1, u.2.2.2.1, u.2.2.2.2.1, u.2.2.2.2.2.1, u.2.2.2.2.2.2.1, u.2.2.2.2.2.2.2.1, v, u.2.2.2.2.2.2.2.2.2)
def zxg_instructions (u : Zxs) : Int32 := u.2.2.2.2.2.2.2.2.2
def zxs_instructions (u : Zxs) (v : Int32) : Zxs := (u.1, u.2.1, u.2.2.1, u.2.2.2.1, u.2.2.2.2.1, u.2.2.2.2.2.1, u.2.2.2.2.2.2.1, u.2.2.2.2.2.2.2.1, u.2.2.2.2.2.2.2.2.1, v)
def ZxW (k : Zxk) (u : Zxs) : va_W := [(zxa_this k, .inr (0, [.ref (zxa_words k), .ref (zxa_bytes k), .int (zxg_pc u), .int (zxg_sp u), .int (zxg_lv u), .int (zxg_cpp u), .int (zxg_top u), .int (zxg_state u), .int (zxg_cycles u), .int (zxg_instructions u)])), (zxa_words k, .inl (zxc_words k, 256, .inl (zxg_words u))), (zxa_bytes k, .inl (zxc_bytes k, 512, .inl (zxg_bytes u)))]
def ZxT (k : Zxk) : List (ClassId × FieldType) := [(zxc_words k, .int), (zxc_bytes k, .byte)]
def ZxL (k : Zxk) : List Nat := [zxa_this k, zxa_words k, zxa_bytes k]
theorem wsX0_step_init : Cond.initialized RX0 ∈ wsX0_step := by decide +kernel
theorem wsX0_step_good : ∀ w ∈ wsX0_step, w ∈ wsX0_step ∧ ((w.onTables && w.keeps) = true ∨ ∃ ty, w = .arrayClass ty) := fun w h => ⟨h, good_of_word (List.all_eq_true.mp (show (wsX0_step).all goodWord = true by decide +kernel) w h)⟩
theorem wsX0_step_fld : ∀ w ∈ u_ws RX0 TX0 10, w ∈ wsX0_step := fun _ h => List.mem_cons_of_mem _ (List.mem_append_right _ h)
theorem wsX0_step_f_words : Cond.fieldLink RX0 9 "StackComputer" "words" "[I" ∈ wsX0_step := by decide +kernel
theorem wsX0_step_f_bytes : Cond.fieldLink RX0 13 "StackComputer" "bytes" "[B" ∈ wsX0_step := by decide +kernel
theorem wsX0_step_f_pc : Cond.fieldLink RX0 17 "StackComputer" "pc" "I" ∈ wsX0_step := by decide +kernel
theorem wsX0_step_f_sp : Cond.fieldLink RX0 21 "StackComputer" "sp" "I" ∈ wsX0_step := by decide +kernel
theorem wsX0_step_f_lv : Cond.fieldLink RX0 24 "StackComputer" "lv" "I" ∈ wsX0_step := by decide +kernel
theorem wsX0_step_f_cpp : Cond.fieldLink RX0 27 "StackComputer" "cpp" "I" ∈ wsX0_step := by decide +kernel
theorem wsX0_step_f_top : Cond.fieldLink RX0 30 "StackComputer" "top" "I" ∈ wsX0_step := by decide +kernel
theorem wsX0_step_f_state : Cond.fieldLink RX0 33 "StackComputer" "state" "I" ∈ wsX0_step := by decide +kernel
theorem wsX0_step_f_cycles : Cond.fieldLink RX0 36 "StackComputer" "cycles" "I" ∈ wsX0_step := by decide +kernel
theorem wsX0_step_f_instructions : Cond.fieldLink RX0 39 "StackComputer" "instructions" "I" ∈ wsX0_step := by decide +kernel

def ZxP (k : Zxk) (u : Zxs) (H : Heap) : Prop := va_P k.1 vwCl (ZxW k u) H
def ZxK (k : Zxk) (U : State) : Prop := va_K k.1 vwCl (ZxT k) U
def ZxA (k : Zxk) : Nat → Prop := fun q => q ∈ ZxL k
def ZxD (k : Zxk) : Prop := (ZxL k).Nodup
theorem zx_D {k : Zxk} (h : ZxD k) (u : Zxs) : va_D (ZxA k) (ZxW k u) := z_Dof (show ((ZxW k u).map Prod.fst).Nodup from h) (fun _ h => h)
def ZxC (p : Program) (s : State) (m : MethodId) (args : Array Value) (c : Code) (cc : ByteArray) (nL : Nat) (k : Zxk) : Prop := CallFix p m c cc nL s args wsX0_step RX0 ∧ ZxK k s ∧ ZxD k
def ZxB (k : Zxk) (av : List Value) (u : Zxs) : Array Value → State → Prop := fun a U => a = av.toArray ∧ ZxP k u U.heap ∧ ZxK k U
def ZxQ (k : Zxk) (v : Option Value) (u' : Zxs) : Array Value → State → Outcome → State → Prop := fun _ st o t => o = .returned v ∧ ZxP k u' t.heap ∧ va_F (ZxA k) st t
theorem zx_blind {k : Zxk} {av : List Value} {u : Zxs} : FrameBlind (ZxB k av u) := fun a U g mk q => ⟨q.1, q.2.1, va_K.moved (u := U) (U := U.calling g mk a) (Vm.Alike.refl U.vm) q.2.2⟩
section ZxRows
variable {p : Program} {l : Launch} {e : Env} {R : Room} {s : State} {m : MethodId} {args : Array Value} {below : List Frame} {meth : Method} {c : Code} {H : Heap} {locs : List Loc} {Q : State → Prop} {cc : ByteArray} {pc nL : Nat} {ls : Array Slot} {rest : List Value} {k : Zxk} {u : Zxs} {H0 : Heap}
theorem zx_enter {y : MethodName} {maxL d : Nat} {ret : Option FieldType} {av : List Value} {v : Option Value} {u' : Zxs} (hy : plainName y.cls = true) (hyc : y.cls = RX0) (hm : (lg_sl av).length ≤ maxL) (Dk : ZxD k)
    (body : ∀ (p : Program) (e : Env) (s : State) (m : MethodId) (below : List Frame) (meth : Method) (c : Code) (ls : Array Slot), ZxC p s m av.toArray c cc maxL k → meth.sig.returnType = ret → meth.locks = false → ZxP k u s.heap → lv_has ls maxL (lv_args 0 av) →
      W p l e (zrm d) s m av.toArray below meth c s.heap [] 0 0 (MQ below (ZxQ k v u') av.toArray s 0 0 (ZxA k)) (F0 m 0 ls [])) :
    Met l y (.code y cc maxL ret :: wsX0_step) (zrm d) (ZxB k av u) (ZxQ k v u') 0 0 (ZxA k) := by
  refine Met.ofW (cc := cc) (maxL := maxL) (ret := ret) hy rfl ?_
  intro p e s m args below meth c s₁ B hml hv
  obtain ⟨rfl, hP, hK⟩ := hv
  have hts := atoms_spec (ws := Cond.code y cc maxL ret :: wsX0_step) B.pre
  have hown : s.vm.findClass RX0 = some m.cls := by rw [← hyc]; exact findClass_of_methodNamed B.named
  rw [lg_entry_eq]
  exact body p e s m below meth c _ ⟨⟨B.exec, B.bytes, hml, hown, fun w h => hts w (List.mem_cons_of_mem _ h)⟩, hK, Dk⟩ B.returns B.notSynchronized hP (lv_entry av hm)
theorem zx_enterR {y : MethodName} {maxL d : Nat} {ret : Option FieldType} {av : List Value} {r : Int32} (hy : plainName y.cls = true) (hyc : y.cls = RX0) (hm : (lg_sl av).length ≤ maxL) (Dk : ZxD k)
    (body : ∀ (p : Program) (e : Env) (s : State) (m : MethodId) (below : List Frame) (meth : Method) (c : Code) (ls : Array Slot), ZxC p s m av.toArray c cc maxL k → meth.sig.returnType = ret → meth.locks = false → ZxP k u s.heap → lv_has ls maxL (lv_args 0 av) →
      W p l e (zrm d) s m av.toArray below meth c s.heap [] 0 0 (MQ below (QcRead r) av.toArray s 0 0 (fun _ => False)) (F0 m 0 ls [])) :
    Met l y (.code y cc maxL ret :: wsX0_step) (zrm d) (ZxB k av u) (QcRead r) 0 0 (fun _ => False) := by
  refine Met.ofW (cc := cc) (maxL := maxL) (ret := ret) hy rfl ?_
  intro p e s m args below meth c s₁ B hml hv
  obtain ⟨rfl, hP, hK⟩ := hv
  have hts := atoms_spec (ws := Cond.code y cc maxL ret :: wsX0_step) B.pre
  have hown : s.vm.findClass RX0 = some m.cls := by rw [← hyc]; exact findClass_of_methodNamed B.named
  rw [lg_entry_eq]
  exact body p e s m below meth c _ ⟨⟨B.exec, B.bytes, hml, hown, fun w h => hts w (List.mem_cons_of_mem _ h)⟩, hK, Dk⟩ B.returns B.notSynchronized hP (lv_entry av hm)
theorem zx_vret {u' u1 : Zxs} (C : ZxC p s m args c cc nL k) (hr : meth.sig.returnType = none) (hlk : meth.locks = false) (hP : ZxP k u1 H) (hS : va_S (ZxA k) s.heap H locs) (eu : u' = u1) (hdg : decode cc pc = .ok (.return_, 1)) :
    W p l e R s m args below meth c H locs 0 0 (MQ below (ZxQ k none u') args s 0 0 (ZxA k)) (F0 m pc ls []) := by
  subst eu
  exact W.vret C.1.1 C.1.2.1 hr (fun t ht _ => ⟨rfl, by rw [ht]; exact hP, hS.F ht⟩) hS.2.2 hdg (hlocks := hlk)
theorem zx_iret {F : Int32 × Zxs} {v : Int32} {u1 : Zxs} (C : ZxC p s m args c cc nL k) (hr : meth.sig.returnType = some .int) (hlk : meth.locks = false) (hP : ZxP k u1 H) (hS : va_S (ZxA k) s.heap H locs) (eu : F = (v, u1)) (hdg : decode cc pc = .ok (.ireturn, 1)) :
    W p l e R s m args below meth c H locs 0 0 (MQ below (ZxQ k (some (.int F.1)) F.2) args s 0 0 (ZxA k)) (F0 m pc ls [.int v]) := by
  subst eu
  exact W.iret C.1.1 C.1.2.1 hr (fun t ht _ => ⟨rfl, by rw [ht]; exact hP, hS.F ht⟩) hS.2.2 hdg (hlocks := hlk)
theorem zx_rret {ty : FieldType} {r v : Int32} (C : ZxC p s m args c cc nL k) (hr : meth.sig.returnType = some ty) (hn : narrow ty (.int v) = .int v) (hlk : meth.locks = false) (er : r = v) (hdg : decode cc pc = .ok (.ireturn, 1)) :
    W p l e R s m args below meth c s.heap [] 0 0 (MQ below (QcRead r) args s 0 0 (fun _ => False)) (F0 m pc ls [.int v]) := z_sret C.1.1 C.1.2.1 hr hn hlk er hdg
theorem zx_cb {y : MethodName} {bytes : ByteArray} {maxL index n d : Nat} {ret : Option FieldType} (C : ZxC p s m args c cc nL k) (h1 : Cond.code y bytes maxL ret ∈ wsX0_step) (h2 : Cond.methodLink RX0 index y ∈ wsX0_step) (hyc : y.cls = RX0)
    (hd : y.cls ≠ "java/lang/invoke/MethodHandle" ∧ y.cls ≠ "java/lang/invoke/VarHandle" ∧ (parseMethodDescriptor y.desc).map (fun d => d.parameters.length) = some n) (hR : d + 1 ≤ R.frames ∧ 8 + (maxL + 11) + 40 * d ≤ R.locals) :
    CallB R s args RX0 index y bytes maxL ret (.code y bytes maxL ret :: wsX0_step) (zrm d) 0 0 n :=
  callB_of n C.1.2.2.2.2 (fun w h => by
    rcases List.mem_cons.mp h with rfl | h
    · exact wsX0_step_good _ h1
    · exact wsX0_step_good _ h) rfl rfl rfl (by rw [hyc]; exact C.1.2.2.2.2 _ wsX0_step_init) (C.1.2.2.2.2 _ h2) hd hR
theorem zx_callS {y : MethodName} {bytes : ByteArray} {maxL index n d : Nat} {ret : Option FieldType} {r : Int32} {As : List Value} (C : ZxC p s m args c cc nL k) (hM : Met l y (.code y bytes maxL ret :: wsX0_step) (zrm d) (fun a _ => a = As.toArray) (QcRead r) 0 0 (fun _ => False)) (h1 : Cond.code y bytes maxL ret ∈ wsX0_step) (h2 : Cond.methodLink RX0 index y ∈ wsX0_step) (h3 : Cond.static y ∈ wsX0_step) (hyc : y.cls = RX0)
    (hd : y.cls ≠ "java/lang/invoke/MethodHandle" ∧ y.cls ≠ "java/lang/invoke/VarHandle" ∧ (parseMethodDescriptor y.desc).map (fun d => d.parameters.length) = some n) (hsz : ls.size = nL) (hR : d + 1 ≤ R.frames ∧ 8 + (maxL + 11) + 40 * d ≤ R.locals) (hw : (rest.map fun v => v.category).sum ≤ 8) (hn : As.length = n) (hdg : decode cc pc = .ok (.invokestatic index, 3))
    (kk : W p l e R s m args below meth c H locs 0 0 Q (F0 m (pc + 3) ls (.int r :: rest))) : W p l e R s m args below meth c H locs 0 0 Q (F0 m pc ls (As.reverse ++ rest)) :=
  W.callR (W.runS C.1 hM ⟨zx_cb C h1 h2 hyc hd hR, C.1.2.2.2.2 _ h3⟩ preEq rfl hn hsz rfl (lv_room hw) hdg ⟨Nat.zero_le _, Nat.zero_le _⟩) kk
theorem zx_preV {As : List Value} (C : ZxC p s m args c cc nL k) (hP : ZxP k u H) : PreV s H RX0 (zxa_this k) (ZxB k (.ref (zxa_this k) :: As) u) As :=
  ⟨zx_blind, va_recv C.2.1 hP (ci := 0) (q := (RX0, TX0, 10)) (q0 := 0) rfl rfl, fun U hU hW => ⟨rfl, by rw [hU]; exact hP, va_K.moved hW.alike C.2.1⟩⟩
theorem zx_callR {y : MethodName} {bytes : ByteArray} {maxL index n d : Nat} {ret : Option FieldType} {r : Int32} {As : List Value} (C : ZxC p s m args c cc nL k) (hM : Met l y (.code y bytes maxL ret :: wsX0_step) (zrm d) (ZxB k (.ref (zxa_this k) :: As) u) (QcRead r) 0 0 (fun _ => False)) (h1 : Cond.code y bytes maxL ret ∈ wsX0_step) (h2 : Cond.methodLink RX0 index y ∈ wsX0_step) (h3 : Cond.instanceMethod y ∈ wsX0_step) (h4 : Cond.selects RX0 y y ∈ wsX0_step) (hyc : y.cls = RX0)
    (hd : y.cls ≠ "java/lang/invoke/MethodHandle" ∧ y.cls ≠ "java/lang/invoke/VarHandle" ∧ (parseMethodDescriptor y.desc).map (fun d => d.parameters.length) = some n) (hP : ZxP k u H) (hsz : ls.size = nL) (hR : d + 1 ≤ R.frames ∧ 8 + (maxL + 11) + 40 * d ≤ R.locals) (hw : (rest.map fun v => v.category).sum ≤ 8) (hn : As.length = n) (hdg : decode cc pc = .ok (.invokevirtual index, 3))
    (kk : W p l e R s m args below meth c H locs 0 0 Q (F0 m (pc + 3) ls (.int r :: rest))) : W p l e R s m args below meth c H locs 0 0 Q (F0 m pc ls (As.reverse ++ .ref (zxa_this k) :: rest)) :=
  W.callR (W.runV C.1 hM ⟨zx_cb C h1 h2 hyc hd hR, C.1.2.2.2.2 _ h3, C.1.2.2.2.2 _ h4⟩ (zx_preV C hP) rfl hn hsz rfl (lv_room hw) hdg ⟨Nat.zero_le _, Nat.zero_le _⟩) kk
theorem zx_callV {y : MethodName} {bytes : ByteArray} {maxL index n d : Nat} {ret : Option FieldType} {v : Option Value} {u' : Zxs} {As : List Value} (C : ZxC p s m args c cc nL k) (hM : Met l y (.code y bytes maxL ret :: wsX0_step) (zrm d) (ZxB k (.ref (zxa_this k) :: As) u) (ZxQ k v u') 0 0 (ZxA k)) (h1 : Cond.code y bytes maxL ret ∈ wsX0_step) (h2 : Cond.methodLink RX0 index y ∈ wsX0_step) (h3 : Cond.instanceMethod y ∈ wsX0_step) (h4 : Cond.selects RX0 y y ∈ wsX0_step) (hyc : y.cls = RX0)
    (hd : y.cls ≠ "java/lang/invoke/MethodHandle" ∧ y.cls ≠ "java/lang/invoke/VarHandle" ∧ (parseMethodDescriptor y.desc).map (fun d => d.parameters.length) = some n) (hP : ZxP k u H) (hS : va_S (ZxA k) H0 H locs) (hsz : ls.size = nL) (hR : d + 1 ≤ R.frames ∧ 8 + (maxL + 11) + 40 * d ≤ R.locals) (hw : (rest.map fun v => v.category).sum ≤ 8) (hn : As.length = n) (hdg : decode cc pc = .ok (.invokevirtual index, 3))
    (kk : ∀ (H1 : Heap) (locs1 : List Loc), ZxP k u' H1 → va_S (ZxA k) H0 H1 locs1 → W p l e R s m args below meth c H1 locs1 0 0 Q (F0 m (pc + 3) ls (v.toList ++ rest))) : W p l e R s m args below meth c H locs 0 0 Q (F0 m pc ls (As.reverse ++ .ref (zxa_this k) :: rest)) := by
  intro T hT X
  obtain ⟨v', st₀, t, T', L, h0, X', hL, e1, e2, ⟨hv, hPt, hz, hk⟩, st⟩ := va_runV C.1 hM ⟨zx_cb C h1 h2 hyc hd hR, C.1.2.2.2.2 _ h3, C.1.2.2.2.2 _ h4⟩ (zx_preV C hP) rfl hn hsz rfl (lv_room hw) hdg ⟨Nat.zero_le _, Nat.zero_le _⟩ T hT X
  cases hv
  rw [h0] at hz hk
  obtain ⟨t2, a1, b1⟩ := kk T'.heap (locs ++ L) (by rw [e1]; exact hPt)
    ⟨Nat.le_trans hS.1 (by rw [e1]; exact hz), fun q g1 g2 => by rw [e1, hk q (Nat.lt_of_lt_of_le g1 hS.1) g2]; exact hS.2.1 q g1 g2, fun q hq => by
      rcases List.mem_append.mp hq with h | h
      · exact hS.2.2 q h
      · exact hL q h⟩ T' rfl X'
  exact ⟨t2, st t2 a1, b1⟩

theorem zxG_words {cells slots : Nat} (C : ZxC p s m args c cc nL k) (hP : ZxP k u H) (hdg : decode cc pc = .ok (.getfield 9, 3)) (kk : W p l e R s m args below meth c H locs cells slots Q (F0 m (pc + 3) ls (.ref (zxa_words k) :: rest))) : W p l e R s m args below meth c H locs cells slots Q (F0 m pc ls (.ref (zxa_this k) :: rest)) :=
  va_get (D := k.1) (ci := 0) (v := .ref (zxa_words k)) (C := RX0) (T := TX0) (N := 10) C.1.1 C.1.2.1 C.1.2.2.2.2 wsX0_step_fld C.1.2.2.2.1 C.2.1 hP 0 rfl rfl 0 (by decide) (C.1.2.2.2.2 _ wsX0_step_f_words) (fun _ h => h) rfl hdg kk
theorem zxG_bytes {cells slots : Nat} (C : ZxC p s m args c cc nL k) (hP : ZxP k u H) (hdg : decode cc pc = .ok (.getfield 13, 3)) (kk : W p l e R s m args below meth c H locs cells slots Q (F0 m (pc + 3) ls (.ref (zxa_bytes k) :: rest))) : W p l e R s m args below meth c H locs cells slots Q (F0 m pc ls (.ref (zxa_this k) :: rest)) :=
  va_get (D := k.1) (ci := 0) (v := .ref (zxa_bytes k)) (C := RX0) (T := TX0) (N := 10) C.1.1 C.1.2.1 C.1.2.2.2.2 wsX0_step_fld C.1.2.2.2.1 C.2.1 hP 0 rfl rfl 1 (by decide) (C.1.2.2.2.2 _ wsX0_step_f_bytes) (fun _ h => h) rfl hdg kk
theorem zxG_pc {cells slots : Nat} (C : ZxC p s m args c cc nL k) (hP : ZxP k u H) (hdg : decode cc pc = .ok (.getfield 17, 3)) (kk : W p l e R s m args below meth c H locs cells slots Q (F0 m (pc + 3) ls (.int (zxg_pc u) :: rest))) : W p l e R s m args below meth c H locs cells slots Q (F0 m pc ls (.ref (zxa_this k) :: rest)) :=
  va_get (D := k.1) (ci := 0) (v := .int (zxg_pc u)) (C := RX0) (T := TX0) (N := 10) C.1.1 C.1.2.1 C.1.2.2.2.2 wsX0_step_fld C.1.2.2.2.1 C.2.1 hP 0 rfl rfl 2 (by decide) (C.1.2.2.2.2 _ wsX0_step_f_pc) (fun _ h => h) rfl hdg kk
theorem zxP_pc {v : Int32} (C : ZxC p s m args c cc nL k) (hP : ZxP k u H) (hS : va_S (ZxA k) H0 H locs) (hdg : decode cc pc = .ok (.putfield 17, 3)) (kk : ∀ (u1 : Zxs) (H1 : Heap) (locs1 : List Loc), u1 = zxs_pc u v → ZxP k u1 H1 → va_S (ZxA k) H0 H1 locs1 → W p l e R s m args below meth c H1 locs1 0 0 Q (F0 m (pc + 3) ls rest)) : W p l e R s m args below meth c H locs 0 0 Q (F0 m pc ls (.int v :: .ref (zxa_this k) :: rest)) :=
  va_put (D := k.1) (ci := 0) (v := .int v) (ty := .int) (C := RX0) (T := TX0) (N := 10) C.1.1 C.1.2.1 C.1.2.2.2.2 wsX0_step_fld tyX0 tyX0_ok nmX0 C.1.2.2.2.1 C.2.1 hP (zx_D C.2.2 u) hS 0 rfl rfl 2 (by decide) (C.1.2.2.2.2 _ wsX0_step_f_pc) (fun _ h => h) rfl (by decide +kernel) rfl rfl (Nat.le_of_ble_eq_true rfl) hdg (fun H1 locs1 hP1 _ hS1 => kk _ H1 locs1 rfl hP1 hS1)
theorem zxG_sp {cells slots : Nat} (C : ZxC p s m args c cc nL k) (hP : ZxP k u H) (hdg : decode cc pc = .ok (.getfield 21, 3)) (kk : W p l e R s m args below meth c H locs cells slots Q (F0 m (pc + 3) ls (.int (zxg_sp u) :: rest))) : W p l e R s m args below meth c H locs cells slots Q (F0 m pc ls (.ref (zxa_this k) :: rest)) :=
  va_get (D := k.1) (ci := 0) (v := .int (zxg_sp u)) (C := RX0) (T := TX0) (N := 10) C.1.1 C.1.2.1 C.1.2.2.2.2 wsX0_step_fld C.1.2.2.2.1 C.2.1 hP 0 rfl rfl 3 (by decide) (C.1.2.2.2.2 _ wsX0_step_f_sp) (fun _ h => h) rfl hdg kk
theorem zxP_sp {v : Int32} (C : ZxC p s m args c cc nL k) (hP : ZxP k u H) (hS : va_S (ZxA k) H0 H locs) (hdg : decode cc pc = .ok (.putfield 21, 3)) (kk : ∀ (u1 : Zxs) (H1 : Heap) (locs1 : List Loc), u1 = zxs_sp u v → ZxP k u1 H1 → va_S (ZxA k) H0 H1 locs1 → W p l e R s m args below meth c H1 locs1 0 0 Q (F0 m (pc + 3) ls rest)) : W p l e R s m args below meth c H locs 0 0 Q (F0 m pc ls (.int v :: .ref (zxa_this k) :: rest)) :=
  va_put (D := k.1) (ci := 0) (v := .int v) (ty := .int) (C := RX0) (T := TX0) (N := 10) C.1.1 C.1.2.1 C.1.2.2.2.2 wsX0_step_fld tyX0 tyX0_ok nmX0 C.1.2.2.2.1 C.2.1 hP (zx_D C.2.2 u) hS 0 rfl rfl 3 (by decide) (C.1.2.2.2.2 _ wsX0_step_f_sp) (fun _ h => h) rfl (by decide +kernel) rfl rfl (Nat.le_of_ble_eq_true rfl) hdg (fun H1 locs1 hP1 _ hS1 => kk _ H1 locs1 rfl hP1 hS1)
theorem zxG_lv {cells slots : Nat} (C : ZxC p s m args c cc nL k) (hP : ZxP k u H) (hdg : decode cc pc = .ok (.getfield 24, 3)) (kk : W p l e R s m args below meth c H locs cells slots Q (F0 m (pc + 3) ls (.int (zxg_lv u) :: rest))) : W p l e R s m args below meth c H locs cells slots Q (F0 m pc ls (.ref (zxa_this k) :: rest)) :=
  va_get (D := k.1) (ci := 0) (v := .int (zxg_lv u)) (C := RX0) (T := TX0) (N := 10) C.1.1 C.1.2.1 C.1.2.2.2.2 wsX0_step_fld C.1.2.2.2.1 C.2.1 hP 0 rfl rfl 4 (by decide) (C.1.2.2.2.2 _ wsX0_step_f_lv) (fun _ h => h) rfl hdg kk
theorem zxP_lv {v : Int32} (C : ZxC p s m args c cc nL k) (hP : ZxP k u H) (hS : va_S (ZxA k) H0 H locs) (hdg : decode cc pc = .ok (.putfield 24, 3)) (kk : ∀ (u1 : Zxs) (H1 : Heap) (locs1 : List Loc), u1 = zxs_lv u v → ZxP k u1 H1 → va_S (ZxA k) H0 H1 locs1 → W p l e R s m args below meth c H1 locs1 0 0 Q (F0 m (pc + 3) ls rest)) : W p l e R s m args below meth c H locs 0 0 Q (F0 m pc ls (.int v :: .ref (zxa_this k) :: rest)) :=
  va_put (D := k.1) (ci := 0) (v := .int v) (ty := .int) (C := RX0) (T := TX0) (N := 10) C.1.1 C.1.2.1 C.1.2.2.2.2 wsX0_step_fld tyX0 tyX0_ok nmX0 C.1.2.2.2.1 C.2.1 hP (zx_D C.2.2 u) hS 0 rfl rfl 4 (by decide) (C.1.2.2.2.2 _ wsX0_step_f_lv) (fun _ h => h) rfl (by decide +kernel) rfl rfl (Nat.le_of_ble_eq_true rfl) hdg (fun H1 locs1 hP1 _ hS1 => kk _ H1 locs1 rfl hP1 hS1)
theorem zxG_cpp {cells slots : Nat} (C : ZxC p s m args c cc nL k) (hP : ZxP k u H) (hdg : decode cc pc = .ok (.getfield 27, 3)) (kk : W p l e R s m args below meth c H locs cells slots Q (F0 m (pc + 3) ls (.int (zxg_cpp u) :: rest))) : W p l e R s m args below meth c H locs cells slots Q (F0 m pc ls (.ref (zxa_this k) :: rest)) :=
  va_get (D := k.1) (ci := 0) (v := .int (zxg_cpp u)) (C := RX0) (T := TX0) (N := 10) C.1.1 C.1.2.1 C.1.2.2.2.2 wsX0_step_fld C.1.2.2.2.1 C.2.1 hP 0 rfl rfl 5 (by decide) (C.1.2.2.2.2 _ wsX0_step_f_cpp) (fun _ h => h) rfl hdg kk
theorem zxP_cpp {v : Int32} (C : ZxC p s m args c cc nL k) (hP : ZxP k u H) (hS : va_S (ZxA k) H0 H locs) (hdg : decode cc pc = .ok (.putfield 27, 3)) (kk : ∀ (u1 : Zxs) (H1 : Heap) (locs1 : List Loc), u1 = zxs_cpp u v → ZxP k u1 H1 → va_S (ZxA k) H0 H1 locs1 → W p l e R s m args below meth c H1 locs1 0 0 Q (F0 m (pc + 3) ls rest)) : W p l e R s m args below meth c H locs 0 0 Q (F0 m pc ls (.int v :: .ref (zxa_this k) :: rest)) :=
  va_put (D := k.1) (ci := 0) (v := .int v) (ty := .int) (C := RX0) (T := TX0) (N := 10) C.1.1 C.1.2.1 C.1.2.2.2.2 wsX0_step_fld tyX0 tyX0_ok nmX0 C.1.2.2.2.1 C.2.1 hP (zx_D C.2.2 u) hS 0 rfl rfl 5 (by decide) (C.1.2.2.2.2 _ wsX0_step_f_cpp) (fun _ h => h) rfl (by decide +kernel) rfl rfl (Nat.le_of_ble_eq_true rfl) hdg (fun H1 locs1 hP1 _ hS1 => kk _ H1 locs1 rfl hP1 hS1)
theorem zxG_top {cells slots : Nat} (C : ZxC p s m args c cc nL k) (hP : ZxP k u H) (hdg : decode cc pc = .ok (.getfield 30, 3)) (kk : W p l e R s m args below meth c H locs cells slots Q (F0 m (pc + 3) ls (.int (zxg_top u) :: rest))) : W p l e R s m args below meth c H locs cells slots Q (F0 m pc ls (.ref (zxa_this k) :: rest)) :=
  va_get (D := k.1) (ci := 0) (v := .int (zxg_top u)) (C := RX0) (T := TX0) (N := 10) C.1.1 C.1.2.1 C.1.2.2.2.2 wsX0_step_fld C.1.2.2.2.1 C.2.1 hP 0 rfl rfl 6 (by decide) (C.1.2.2.2.2 _ wsX0_step_f_top) (fun _ h => h) rfl hdg kk
theorem zxP_top {v : Int32} (C : ZxC p s m args c cc nL k) (hP : ZxP k u H) (hS : va_S (ZxA k) H0 H locs) (hdg : decode cc pc = .ok (.putfield 30, 3)) (kk : ∀ (u1 : Zxs) (H1 : Heap) (locs1 : List Loc), u1 = zxs_top u v → ZxP k u1 H1 → va_S (ZxA k) H0 H1 locs1 → W p l e R s m args below meth c H1 locs1 0 0 Q (F0 m (pc + 3) ls rest)) : W p l e R s m args below meth c H locs 0 0 Q (F0 m pc ls (.int v :: .ref (zxa_this k) :: rest)) :=
  va_put (D := k.1) (ci := 0) (v := .int v) (ty := .int) (C := RX0) (T := TX0) (N := 10) C.1.1 C.1.2.1 C.1.2.2.2.2 wsX0_step_fld tyX0 tyX0_ok nmX0 C.1.2.2.2.1 C.2.1 hP (zx_D C.2.2 u) hS 0 rfl rfl 6 (by decide) (C.1.2.2.2.2 _ wsX0_step_f_top) (fun _ h => h) rfl (by decide +kernel) rfl rfl (Nat.le_of_ble_eq_true rfl) hdg (fun H1 locs1 hP1 _ hS1 => kk _ H1 locs1 rfl hP1 hS1)
theorem zxG_state {cells slots : Nat} (C : ZxC p s m args c cc nL k) (hP : ZxP k u H) (hdg : decode cc pc = .ok (.getfield 33, 3)) (kk : W p l e R s m args below meth c H locs cells slots Q (F0 m (pc + 3) ls (.int (zxg_state u) :: rest))) : W p l e R s m args below meth c H locs cells slots Q (F0 m pc ls (.ref (zxa_this k) :: rest)) :=
  va_get (D := k.1) (ci := 0) (v := .int (zxg_state u)) (C := RX0) (T := TX0) (N := 10) C.1.1 C.1.2.1 C.1.2.2.2.2 wsX0_step_fld C.1.2.2.2.1 C.2.1 hP 0 rfl rfl 7 (by decide) (C.1.2.2.2.2 _ wsX0_step_f_state) (fun _ h => h) rfl hdg kk
theorem zxP_state {v : Int32} (C : ZxC p s m args c cc nL k) (hP : ZxP k u H) (hS : va_S (ZxA k) H0 H locs) (hdg : decode cc pc = .ok (.putfield 33, 3)) (kk : ∀ (u1 : Zxs) (H1 : Heap) (locs1 : List Loc), u1 = zxs_state u v → ZxP k u1 H1 → va_S (ZxA k) H0 H1 locs1 → W p l e R s m args below meth c H1 locs1 0 0 Q (F0 m (pc + 3) ls rest)) : W p l e R s m args below meth c H locs 0 0 Q (F0 m pc ls (.int v :: .ref (zxa_this k) :: rest)) :=
  va_put (D := k.1) (ci := 0) (v := .int v) (ty := .int) (C := RX0) (T := TX0) (N := 10) C.1.1 C.1.2.1 C.1.2.2.2.2 wsX0_step_fld tyX0 tyX0_ok nmX0 C.1.2.2.2.1 C.2.1 hP (zx_D C.2.2 u) hS 0 rfl rfl 7 (by decide) (C.1.2.2.2.2 _ wsX0_step_f_state) (fun _ h => h) rfl (by decide +kernel) rfl rfl (Nat.le_of_ble_eq_true rfl) hdg (fun H1 locs1 hP1 _ hS1 => kk _ H1 locs1 rfl hP1 hS1)
theorem zxG_cycles {cells slots : Nat} (C : ZxC p s m args c cc nL k) (hP : ZxP k u H) (hdg : decode cc pc = .ok (.getfield 36, 3)) (kk : W p l e R s m args below meth c H locs cells slots Q (F0 m (pc + 3) ls (.int (zxg_cycles u) :: rest))) : W p l e R s m args below meth c H locs cells slots Q (F0 m pc ls (.ref (zxa_this k) :: rest)) :=
  va_get (D := k.1) (ci := 0) (v := .int (zxg_cycles u)) (C := RX0) (T := TX0) (N := 10) C.1.1 C.1.2.1 C.1.2.2.2.2 wsX0_step_fld C.1.2.2.2.1 C.2.1 hP 0 rfl rfl 8 (by decide) (C.1.2.2.2.2 _ wsX0_step_f_cycles) (fun _ h => h) rfl hdg kk
theorem zxP_cycles {v : Int32} (C : ZxC p s m args c cc nL k) (hP : ZxP k u H) (hS : va_S (ZxA k) H0 H locs) (hdg : decode cc pc = .ok (.putfield 36, 3)) (kk : ∀ (u1 : Zxs) (H1 : Heap) (locs1 : List Loc), u1 = zxs_cycles u v → ZxP k u1 H1 → va_S (ZxA k) H0 H1 locs1 → W p l e R s m args below meth c H1 locs1 0 0 Q (F0 m (pc + 3) ls rest)) : W p l e R s m args below meth c H locs 0 0 Q (F0 m pc ls (.int v :: .ref (zxa_this k) :: rest)) :=
  va_put (D := k.1) (ci := 0) (v := .int v) (ty := .int) (C := RX0) (T := TX0) (N := 10) C.1.1 C.1.2.1 C.1.2.2.2.2 wsX0_step_fld tyX0 tyX0_ok nmX0 C.1.2.2.2.1 C.2.1 hP (zx_D C.2.2 u) hS 0 rfl rfl 8 (by decide) (C.1.2.2.2.2 _ wsX0_step_f_cycles) (fun _ h => h) rfl (by decide +kernel) rfl rfl (Nat.le_of_ble_eq_true rfl) hdg (fun H1 locs1 hP1 _ hS1 => kk _ H1 locs1 rfl hP1 hS1)
theorem zxG_instructions {cells slots : Nat} (C : ZxC p s m args c cc nL k) (hP : ZxP k u H) (hdg : decode cc pc = .ok (.getfield 39, 3)) (kk : W p l e R s m args below meth c H locs cells slots Q (F0 m (pc + 3) ls (.int (zxg_instructions u) :: rest))) : W p l e R s m args below meth c H locs cells slots Q (F0 m pc ls (.ref (zxa_this k) :: rest)) :=
  va_get (D := k.1) (ci := 0) (v := .int (zxg_instructions u)) (C := RX0) (T := TX0) (N := 10) C.1.1 C.1.2.1 C.1.2.2.2.2 wsX0_step_fld C.1.2.2.2.1 C.2.1 hP 0 rfl rfl 9 (by decide) (C.1.2.2.2.2 _ wsX0_step_f_instructions) (fun _ h => h) rfl hdg kk
theorem zxP_instructions {v : Int32} (C : ZxC p s m args c cc nL k) (hP : ZxP k u H) (hS : va_S (ZxA k) H0 H locs) (hdg : decode cc pc = .ok (.putfield 39, 3)) (kk : ∀ (u1 : Zxs) (H1 : Heap) (locs1 : List Loc), u1 = zxs_instructions u v → ZxP k u1 H1 → va_S (ZxA k) H0 H1 locs1 → W p l e R s m args below meth c H1 locs1 0 0 Q (F0 m (pc + 3) ls rest)) : W p l e R s m args below meth c H locs 0 0 Q (F0 m pc ls (.int v :: .ref (zxa_this k) :: rest)) :=
  va_put (D := k.1) (ci := 0) (v := .int v) (ty := .int) (C := RX0) (T := TX0) (N := 10) C.1.1 C.1.2.1 C.1.2.2.2.2 wsX0_step_fld tyX0 tyX0_ok nmX0 C.1.2.2.2.1 C.2.1 hP (zx_D C.2.2 u) hS 0 rfl rfl 9 (by decide) (C.1.2.2.2.2 _ wsX0_step_f_instructions) (fun _ h => h) rfl (by decide +kernel) rfl rfl (Nat.le_of_ble_eq_true rfl) hdg (fun H1 locs1 hP1 _ hS1 => kk _ H1 locs1 rfl hP1 hS1)
theorem zxL_words {cells slots : Nat} {i : Int32} (C : ZxC p s m args c cc nL k) (hP : ZxP k u H) (hin : vp_in i 256) (hdg : decode cc pc = .ok (.iaload, 1)) (kk : W p l e R s m args below meth c H locs cells slots Q (F0 m (pc + 1) ls (.int (zxg_words u i.toNatClampNeg) :: rest))) : W p l e R s m args below meth c H locs cells slots Q (F0 m pc ls (.int i :: .ref (zxa_words k) :: rest)) :=
  va_iald (D := k.1) (f := zxg_words u) C.1.1 C.1.2.1 C.2.1 hP 1 0 rfl rfl hin hdg kk
theorem zxS_words {i v : Int32} (C : ZxC p s m args c cc nL k) (hP : ZxP k u H) (hS : va_S (ZxA k) H0 H locs) (hin : vp_in i 256) (hdg : decode cc pc = .ok (.iastore, 1)) (kk : ∀ (u1 : Zxs) (H1 : Heap) (locs1 : List Loc), u1 = zxs_words u (upd (zxg_words u) i.toNatClampNeg v) → ZxP k u1 H1 → va_S (ZxA k) H0 H1 locs1 → W p l e R s m args below meth c H1 locs1 0 0 Q (F0 m (pc + 1) ls rest)) : W p l e R s m args below meth c H locs 0 0 Q (F0 m pc ls (.int v :: .int i :: .ref (zxa_words k) :: rest)) :=
  va_iast (D := k.1) (f := zxg_words u) C.1.1 C.1.2.1 C.2.1 hP (zx_D C.2.2 u) hS 1 0 rfl rfl hin hdg (fun H1 locs1 hP1 _ hS1 => kk _ H1 locs1 rfl hP1 hS1)
theorem zxL_bytes {cells slots : Nat} {i : Int32} (C : ZxC p s m args c cc nL k) (hP : ZxP k u H) (hin : vp_in i 512) (hdg : decode cc pc = .ok (.baload, 1)) (kk : W p l e R s m args below meth c H locs cells slots Q (F0 m (pc + 1) ls (.int (zxg_bytes u i.toNatClampNeg) :: rest))) : W p l e R s m args below meth c H locs cells slots Q (F0 m pc ls (.int i :: .ref (zxa_bytes k) :: rest)) :=
  va_bald (D := k.1) (f := zxg_bytes u) C.1.1 C.1.2.1 C.2.1 hP 2 1 rfl rfl hin hdg kk
theorem zxS_bytes {i v : Int32} (C : ZxC p s m args c cc nL k) (hP : ZxP k u H) (hS : va_S (ZxA k) H0 H locs) (hin : vp_in i 512) (hdg : decode cc pc = .ok (.bastore, 1)) (kk : ∀ (u1 : Zxs) (H1 : Heap) (locs1 : List Loc), u1 = zxs_bytes u (upd (zxg_bytes u) i.toNatClampNeg (vp_nar .byte v)) → ZxP k u1 H1 → va_S (ZxA k) H0 H1 locs1 → W p l e R s m args below meth c H1 locs1 0 0 Q (F0 m (pc + 1) ls rest)) : W p l e R s m args below meth c H locs 0 0 Q (F0 m pc ls (.int v :: .int i :: .ref (zxa_bytes k) :: rest)) :=
  va_bast (D := k.1) (f := zxg_bytes u) C.1.1 C.1.2.1 C.2.1 hP (zx_D C.2.2 u) hS 2 1 rfl rfl hin hdg (fun H1 locs1 hP1 _ hS1 => kk _ H1 locs1 rfl hP1 hS1)
end ZxRows
theorem wsX0_step_c_isWord : Cond.code yX0_isWord cX0_isWord 1 (some .boolean) ∈ wsX0_step := by decide +kernel
theorem wsX0_step_l_isWord : Cond.methodLink RX0 42 yX0_isWord ∈ wsX0_step := by decide +kernel
theorem wsX0_step_s_isWord : Cond.static yX0_isWord ∈ wsX0_step := by decide +kernel
theorem wsX0_step_c_areBytes : Cond.code yX0_areBytes cX0_areBytes 2 (some .boolean) ∈ wsX0_step := by decide +kernel
theorem wsX0_step_l_areBytes : Cond.methodLink RX0 53 yX0_areBytes ∈ wsX0_step := by decide +kernel
theorem wsX0_step_s_areBytes : Cond.static yX0_areBytes ∈ wsX0_step := by decide +kernel
theorem wsX0_step_c_fault : Cond.code yX0_fault cX0_fault 1 none ∈ wsX0_step := by decide +kernel
theorem wsX0_step_l_fault : Cond.methodLink RX0 74 yX0_fault ∈ wsX0_step := by decide +kernel
theorem wsX0_step_i_fault : Cond.instanceMethod yX0_fault ∈ wsX0_step := by decide +kernel
theorem wsX0_step_v_fault : Cond.selects RX0 yX0_fault yX0_fault ∈ wsX0_step := by decide +kernel
theorem wsX0_step_c_unsignedByte : Cond.code yX0_unsignedByte cX0_unsignedByte 2 (some .int) ∈ wsX0_step := by decide +kernel
theorem wsX0_step_l_unsignedByte : Cond.methodLink RX0 77 yX0_unsignedByte ∈ wsX0_step := by decide +kernel
theorem wsX0_step_i_unsignedByte : Cond.instanceMethod yX0_unsignedByte ∈ wsX0_step := by decide +kernel
theorem wsX0_step_v_unsignedByte : Cond.selects RX0 yX0_unsignedByte yX0_unsignedByte ∈ wsX0_step := by decide +kernel
theorem wsX0_step_c_finish : Cond.code yX0_finish cX0_finish 3 none ∈ wsX0_step := by decide +kernel
theorem wsX0_step_l_finish : Cond.methodLink RX0 81 yX0_finish ∈ wsX0_step := by decide +kernel
theorem wsX0_step_i_finish : Cond.instanceMethod yX0_finish ∈ wsX0_step := by decide +kernel
theorem wsX0_step_v_finish : Cond.selects RX0 yX0_finish yX0_finish ∈ wsX0_step := by decide +kernel
theorem wsX0_step_c_combine : Cond.code yX0_combine cX0_combine 3 none ∈ wsX0_step := by decide +kernel
theorem wsX0_step_l_combine : Cond.methodLink RX0 85 yX0_combine ∈ wsX0_step := by decide +kernel
theorem wsX0_step_i_combine : Cond.instanceMethod yX0_combine ∈ wsX0_step := by decide +kernel
theorem wsX0_step_v_combine : Cond.selects RX0 yX0_combine yX0_combine ∈ wsX0_step := by decide +kernel
theorem wsX0_step_c_push : Cond.code yX0_push cX0_push 5 none ∈ wsX0_step := by decide +kernel
theorem wsX0_step_l_push : Cond.methodLink RX0 89 yX0_push ∈ wsX0_step := by decide +kernel
theorem wsX0_step_i_push : Cond.instanceMethod yX0_push ∈ wsX0_step := by decide +kernel
theorem wsX0_step_v_push : Cond.selects RX0 yX0_push yX0_push ∈ wsX0_step := by decide +kernel
theorem wsX0_step_c_pop : Cond.code yX0_pop cX0_pop 2 none ∈ wsX0_step := by decide +kernel
theorem wsX0_step_l_pop : Cond.methodLink RX0 93 yX0_pop ∈ wsX0_step := by decide +kernel
theorem wsX0_step_i_pop : Cond.instanceMethod yX0_pop ∈ wsX0_step := by decide +kernel
theorem wsX0_step_v_pop : Cond.selects RX0 yX0_pop yX0_pop ∈ wsX0_step := by decide +kernel
theorem wsX0_step_c_swap : Cond.code yX0_swap cX0_swap 3 none ∈ wsX0_step := by decide +kernel
theorem wsX0_step_l_swap : Cond.methodLink RX0 96 yX0_swap ∈ wsX0_step := by decide +kernel
theorem wsX0_step_i_swap : Cond.instanceMethod yX0_swap ∈ wsX0_step := by decide +kernel
theorem wsX0_step_v_swap : Cond.selects RX0 yX0_swap yX0_swap ∈ wsX0_step := by decide +kernel
theorem wsX0_step_c_pushByte : Cond.code yX0_pushByte cX0_pushByte 1 none ∈ wsX0_step := by decide +kernel
theorem wsX0_step_l_pushByte : Cond.methodLink RX0 99 yX0_pushByte ∈ wsX0_step := by decide +kernel
theorem wsX0_step_i_pushByte : Cond.instanceMethod yX0_pushByte ∈ wsX0_step := by decide +kernel
theorem wsX0_step_v_pushByte : Cond.selects RX0 yX0_pushByte yX0_pushByte ∈ wsX0_step := by decide +kernel
theorem wsX0_step_c_loadNarrow : Cond.code yX0_loadNarrow cX0_loadNarrow 1 none ∈ wsX0_step := by decide +kernel
theorem wsX0_step_l_loadNarrow : Cond.methodLink RX0 102 yX0_loadNarrow ∈ wsX0_step := by decide +kernel
theorem wsX0_step_i_loadNarrow : Cond.instanceMethod yX0_loadNarrow ∈ wsX0_step := by decide +kernel
theorem wsX0_step_v_loadNarrow : Cond.selects RX0 yX0_loadNarrow yX0_loadNarrow ∈ wsX0_step := by decide +kernel
theorem wsX0_step_c_storeNarrow : Cond.code yX0_storeNarrow cX0_storeNarrow 1 none ∈ wsX0_step := by decide +kernel
theorem wsX0_step_l_storeNarrow : Cond.methodLink RX0 105 yX0_storeNarrow ∈ wsX0_step := by decide +kernel
theorem wsX0_step_i_storeNarrow : Cond.instanceMethod yX0_storeNarrow ∈ wsX0_step := by decide +kernel
theorem wsX0_step_v_storeNarrow : Cond.selects RX0 yX0_storeNarrow yX0_storeNarrow ∈ wsX0_step := by decide +kernel
theorem wsX0_step_c_wide : Cond.code yX0_wide cX0_wide 3 none ∈ wsX0_step := by decide +kernel
theorem wsX0_step_l_wide : Cond.methodLink RX0 108 yX0_wide ∈ wsX0_step := by decide +kernel
theorem wsX0_step_i_wide : Cond.instanceMethod yX0_wide ∈ wsX0_step := by decide +kernel
theorem wsX0_step_v_wide : Cond.selects RX0 yX0_wide yX0_wide ∈ wsX0_step := by decide +kernel
theorem wsX0_step_c_loadConstant : Cond.code yX0_loadConstant cX0_loadConstant 1 none ∈ wsX0_step := by decide +kernel
theorem wsX0_step_l_loadConstant : Cond.methodLink RX0 111 yX0_loadConstant ∈ wsX0_step := by decide +kernel
theorem wsX0_step_i_loadConstant : Cond.instanceMethod yX0_loadConstant ∈ wsX0_step := by decide +kernel
theorem wsX0_step_v_loadConstant : Cond.selects RX0 yX0_loadConstant yX0_loadConstant ∈ wsX0_step := by decide +kernel
theorem wsX0_step_c_increase : Cond.code yX0_increase cX0_increase 2 none ∈ wsX0_step := by decide +kernel
theorem wsX0_step_l_increase : Cond.methodLink RX0 114 yX0_increase ∈ wsX0_step := by decide +kernel
theorem wsX0_step_i_increase : Cond.instanceMethod yX0_increase ∈ wsX0_step := by decide +kernel
theorem wsX0_step_v_increase : Cond.selects RX0 yX0_increase yX0_increase ∈ wsX0_step := by decide +kernel
theorem wsX0_step_c_jump : Cond.code yX0_jump cX0_jump 2 none ∈ wsX0_step := by decide +kernel
theorem wsX0_step_l_jump : Cond.methodLink RX0 117 yX0_jump ∈ wsX0_step := by decide +kernel
theorem wsX0_step_i_jump : Cond.instanceMethod yX0_jump ∈ wsX0_step := by decide +kernel
theorem wsX0_step_v_jump : Cond.selects RX0 yX0_jump yX0_jump ∈ wsX0_step := by decide +kernel
theorem wsX0_step_c_jumpOnTop : Cond.code yX0_jumpOnTop cX0_jumpOnTop 3 none ∈ wsX0_step := by decide +kernel
theorem wsX0_step_l_jumpOnTop : Cond.methodLink RX0 120 yX0_jumpOnTop ∈ wsX0_step := by decide +kernel
theorem wsX0_step_i_jumpOnTop : Cond.instanceMethod yX0_jumpOnTop ∈ wsX0_step := by decide +kernel
theorem wsX0_step_v_jumpOnTop : Cond.selects RX0 yX0_jumpOnTop yX0_jumpOnTop ∈ wsX0_step := by decide +kernel
theorem wsX0_step_c_jumpOnLike : Cond.code yX0_jumpOnLike cX0_jumpOnLike 3 none ∈ wsX0_step := by decide +kernel
theorem wsX0_step_l_jumpOnLike : Cond.methodLink RX0 124 yX0_jumpOnLike ∈ wsX0_step := by decide +kernel
theorem wsX0_step_i_jumpOnLike : Cond.instanceMethod yX0_jumpOnLike ∈ wsX0_step := by decide +kernel
theorem wsX0_step_v_jumpOnLike : Cond.selects RX0 yX0_jumpOnLike yX0_jumpOnLike ∈ wsX0_step := by decide +kernel
theorem wsX0_step_c_enter : Cond.code yX0_enter cX0_enter 5 none ∈ wsX0_step := by decide +kernel
theorem wsX0_step_l_enter : Cond.methodLink RX0 127 yX0_enter ∈ wsX0_step := by decide +kernel
theorem wsX0_step_i_enter : Cond.instanceMethod yX0_enter ∈ wsX0_step := by decide +kernel
theorem wsX0_step_v_enter : Cond.selects RX0 yX0_enter yX0_enter ∈ wsX0_step := by decide +kernel
theorem wsX0_step_c_leave : Cond.code yX0_leave cX0_leave 4 none ∈ wsX0_step := by decide +kernel
theorem wsX0_step_l_leave : Cond.methodLink RX0 130 yX0_leave ∈ wsX0_step := by decide +kernel
theorem wsX0_step_i_leave : Cond.instanceMethod yX0_leave ∈ wsX0_step := by decide +kernel
theorem wsX0_step_v_leave : Cond.selects RX0 yX0_leave yX0_leave ∈ wsX0_step := by decide +kernel
theorem wsX0_step_c_halt : Cond.code yX0_halt cX0_halt 1 none ∈ wsX0_step := by decide +kernel
theorem wsX0_step_l_halt : Cond.methodLink RX0 133 yX0_halt ∈ wsX0_step := by decide +kernel
theorem wsX0_step_i_halt : Cond.instanceMethod yX0_halt ∈ wsX0_step := by decide +kernel
theorem wsX0_step_v_halt : Cond.selects RX0 yX0_halt yX0_halt ∈ wsX0_step := by decide +kernel
theorem wsX0_step_c_trap : Cond.code yX0_trap cX0_trap 1 none ∈ wsX0_step := by decide +kernel
theorem wsX0_step_l_trap : Cond.methodLink RX0 136 yX0_trap ∈ wsX0_step := by decide +kernel
theorem wsX0_step_i_trap : Cond.instanceMethod yX0_trap ∈ wsX0_step := by decide +kernel
theorem wsX0_step_v_trap : Cond.selects RX0 yX0_trap yX0_trap ∈ wsX0_step := by decide +kernel
theorem wsX0_step_c_combined : Cond.code yX0_combined cX0_combined 3 (some .int) ∈ wsX0_step := by decide +kernel
theorem wsX0_step_l_combined : Cond.methodLink RX0 139 yX0_combined ∈ wsX0_step := by decide +kernel
theorem wsX0_step_s_combined : Cond.static yX0_combined ∈ wsX0_step := by decide +kernel
theorem wsX0_step_c_load : Cond.code yX0_load cX0_load 4 none ∈ wsX0_step := by decide +kernel
theorem wsX0_step_l_load : Cond.methodLink RX0 143 yX0_load ∈ wsX0_step := by decide +kernel
theorem wsX0_step_i_load : Cond.instanceMethod yX0_load ∈ wsX0_step := by decide +kernel
theorem wsX0_step_v_load : Cond.selects RX0 yX0_load yX0_load ∈ wsX0_step := by decide +kernel
theorem wsX0_step_c_store : Cond.code yX0_store cX0_store 5 none ∈ wsX0_step := by decide +kernel
theorem wsX0_step_l_store : Cond.methodLink RX0 146 yX0_store ∈ wsX0_step := by decide +kernel
theorem wsX0_step_i_store : Cond.instanceMethod yX0_store ∈ wsX0_step := by decide +kernel
theorem wsX0_step_v_store : Cond.selects RX0 yX0_store yX0_store ∈ wsX0_step := by decide +kernel
theorem wsX0_step_c_unsignedPair : Cond.code yX0_unsignedPair cX0_unsignedPair 2 (some .int) ∈ wsX0_step := by decide +kernel
theorem wsX0_step_l_unsignedPair : Cond.methodLink RX0 149 yX0_unsignedPair ∈ wsX0_step := by decide +kernel
theorem wsX0_step_i_unsignedPair : Cond.instanceMethod yX0_unsignedPair ∈ wsX0_step := by decide +kernel
theorem wsX0_step_v_unsignedPair : Cond.selects RX0 yX0_unsignedPair yX0_unsignedPair ∈ wsX0_step := by decide +kernel
theorem wsX0_step_c_signedPair : Cond.code yX0_signedPair cX0_signedPair 2 (some .int) ∈ wsX0_step := by decide +kernel
theorem wsX0_step_l_signedPair : Cond.methodLink RX0 152 yX0_signedPair ∈ wsX0_step := by decide +kernel
theorem wsX0_step_i_signedPair : Cond.instanceMethod yX0_signedPair ∈ wsX0_step := by decide +kernel
theorem wsX0_step_v_signedPair : Cond.selects RX0 yX0_signedPair yX0_signedPair ∈ wsX0_step := by decide +kernel
theorem wsX0_step_c_branch : Cond.code yX0_branch cX0_branch 4 none ∈ wsX0_step := by decide +kernel
theorem wsX0_step_l_branch : Cond.methodLink RX0 155 yX0_branch ∈ wsX0_step := by decide +kernel
theorem wsX0_step_i_branch : Cond.instanceMethod yX0_branch ∈ wsX0_step := by decide +kernel
theorem wsX0_step_v_branch : Cond.selects RX0 yX0_branch yX0_branch ∈ wsX0_step := by decide +kernel
abbrev Ztk : Type := va_G × Nat × Nat × Nat × Nat × Nat × ClassId × ClassId × ClassId × ClassId
def zta_this (k : Ztk) : Nat := k.2.1
def zta_words (k : Ztk) : Nat := k.2.2.1
def zta_bytes (k : Ztk) : Nat := k.2.2.2.1
def zta_places (k : Ztk) : Nat := k.2.2.2.2.1
def zta_before (k : Ztk) : Nat := k.2.2.2.2.2.1
def ztc_words (k : Ztk) : ClassId := k.2.2.2.2.2.2.1
def ztc_bytes (k : Ztk) : ClassId := k.2.2.2.2.2.2.2.1
def ztc_places (k : Ztk) : ClassId := k.2.2.2.2.2.2.2.2.1
def ztc_before (k : Ztk) : ClassId := k.2.2.2.2.2.2.2.2.2
abbrev Zts : Type := Int32 × (Nat → Int32) × (Nat → Int32) × Int32 × Int32 × Int32 × Int32 × Int32 × Int32 × Int32 × Int32 × Int32 × Int32 × Int32 × Int32 × (Nat → Int32) × (Nat → Int32)
def ztg_thrown (u : Zts) : Int32 := u.1
def zts_thrown (u : Zts) (v : Int32) : Zts := (v, u.2)
def ztg_words (u : Zts) : (Nat → Int32) := u.2.1
def zts_words (u : Zts) (v : (Nat → Int32)) : Zts := (u.1, v, u.2.2)
def ztg_bytes (u : Zts) : (Nat → Int32) := u.2.2.1
def zts_bytes (u : Zts) (v : (Nat → Int32)) : Zts := (u.1, u.2.1, v, u.2.2.2)
def ztg_pc (u : Zts) : Int32 := u.2.2.2.1
def zts_pc (u : Zts) (v : Int32) : Zts := (u.1, u.2.1, u.2.2.1, v, u.2.2.2.2)
def ztg_sp (u : Zts) : Int32 := u.2.2.2.2.1
def zts_sp (u : Zts) (v : Int32) : Zts := (u.1, u.2.1, u.2.2.1, u.2.2.2.1, v, u.2.2.2.2.2)
def ztg_lv (u : Zts) : Int32 := u.2.2.2.2.2.1
def zts_lv (u : Zts) (v : Int32) : Zts := (u.1, u.2.1, u.2.2.1, u.2.2.2.1, u.2.2.2.2.1, v, u.2.2.2.2.2.2)
def ztg_cpp (u : Zts) : Int32 := u.2.2.2.2.2.2.1
def zts_cpp (u : Zts) (v : Int32) : Zts := (u.1, u.2.1, u.2.2.1, u.2.2.2.1, u.2.2.2.2.1, u.2.2.2.2.2.1, v, u.2.2.2.2.2.2.2)
def ztg_top (u : Zts) : Int32 := u.2.2.2.2.2.2.2.1
def zts_top (u : Zts) (v : Int32) : Zts := (u.1, u.2.1, u.2.2.1, u.2.2.2.1, u.2.2.2.2.1, u.2.2.2.2.2.1, u.2.2.2.2.2.2.1, v, u.2.2.2.2.2.2.2.2)
def ztg_state (u : Zts) : Int32 := u.2.2.2.2.2.2.2.2.1
def zts_state (u : Zts) (v : Int32) : Zts := (u.1, u.2.1, u.2.2.1, u.2.2.2.1, u.2.2.2.2.1, u.2.2.2.2.2.1, u.2.2.2.2.2.2.1, u.2.2.2.2.2.2.2.1, v, u.2.2.2.2.2.2.2.2.2)
def ztg_cycles (u : Zts) : Int32 := u.2.2.2.2.2.2.2.2.2.1
def zts_cycles (u : Zts) (v : Int32) : Zts := (u.1, u.2.1, u.2.2.1, u.2.2.2.1, u.2.2.2.2.1, u.2.2.2.2.2.1, u.2.2.2.2.2.2.1, u.2.2.2.2.2.2.2.1, u.2.2.2.2.2.2.2.2.1, v, u.2.2.2.2.2.2.2.2.2.2)
def ztg_done (u : Zts) : Int32 := u.2.2.2.2.2.2.2.2.2.2.1
def zts_done (u : Zts) (v : Int32) : Zts := (u.1, u.2.1, u.2.2.1, u.2.2.2.1, u.2.2.2.2.1, u.2.2.2.2.2.1, u.2.2.2.2.2.2.1, u.2.2.2.2.2.2.2.1, u.2.2.2.2.2.2.2.2.1, u.2.2.2.2.2.2.2.2.2.1, v, u.2.2.2.2.2.2.2.2.2.2.2)
def ztg_next (u : Zts) : Int32 := u.2.2.2.2.2.2.2.2.2.2.2.1
def zts_next (u : Zts) (v : Int32) : Zts := (u.1, u.2.1, u.2.2.1, u.2.2.2.1, u.2.2.2.2.1, u.2.2.2.2.2.1, u.2.2.2.2.2.2.1, u.2.2.2.2.2.2.2.1, u.2.2.2.2.2.2.2.2.1, u.2.2.2.2.2.2.2.2.2.1, u.2.2.2.2.2.2.2.2.2.2.1, v, u.2.2.2.2.2.2.2.2.2.2.2.2)
def ztg_amiss (u : Zts) : Int32 := u.2.2.2.2.2.2.2.2.2.2.2.2.1
def zts_amiss (u : Zts) (v : Int32) : Zts := (u.1, u.2.1, u.2.2.1, u.2.2.2.1, u.2.2.2.2.1, u.2.2.2.2.2.1, u.2.2.2.2.2.2.1, u.2.2.2.2.2.2.2.1, u.2.2.2.2.2.2.2.2.1, u.2.2.2.2.2.2.2.2.2.1, u.2.2.2.2.2.2.2.2.2.2.1, u.2.2.2.2.2.2.2.2.2.2.2.1, v, u.2.2.2.2.2.2.2.2.2.2.2.2.2)
def ztg_unknown (u : Zts) : Int32 := u.2.2.2.2.2.2.2.2.2.2.2.2.2.1
def zts_unknown (u : Zts) (v : Int32) : Zts := (u.1, u.2.1, u.2.2.1, u.2.2.2.1, u.2.2.2.2.1, u.2.2.2.2.2.1, u.2.2.2.2.2.2.1, u.2.2.2.2.2.2.2.1, u.2.2.2.2.2.2.2.2.1, u.2.2.2.2.2.2.2.2.2.1, u.2.2.2.2.2.2.2.2.2.2.1, u.2.2.2.2.2.2.2.2.2.2.2.1, u.2.2.2.2.2.2.2.2.2.2.2.2.1, v, u.2.2.2.2.2.2.2.2.2.2.2.2.2.2)
def ztg_writes (u : Zts) : Int32 := u.2.2.2.2.2.2.2.2.2.2.2.2.2.2.1
def zts_writes (u : Zts) (v : Int32) : Zts := (u.1, u.2.1, u.2.2.1, u.2.2.2.1, u.2.2.2.2.1, u.2.2.2.2.2.1, u.2.2.2.2.2.2.1, u.2.2.2.2.2.2.2.1, u.2.2.2.2.2.2.2.2.1, u.2.2.2.2.2.2.2.2.2.1, u.2.2.2.2.2.2.2.2.2.2.1, u.2.2.2.2.2.2.2.2.2.2.2.1, u.2.2.2.2.2.2.2.2.2.2.2.2.1, u.2.2.2.2.2.2.2.2.2.2.2.2.2.1, v, u.2.2.2.2.2.2.2.2.2.2.2.2.2.2.2)
def ztg_places (u : Zts) : (Nat → Int32) := u.2.2.2.2.2.2.2.2.2.2.2.2.2.2.2.1
def zts_places (u : Zts) (v : (Nat → Int32)) : Zts := (u.1, u.2.1, u.2.2.1, u.2.2.2.1, u.2.2.2.2.1, u.2.2.2.2.2.1, u.2.2.2.2.2.2.1, u.2.2.2.2.2.2.2.1, u.2.2.2.2.2.2.2.2.1, u.2.2.2.2.2.2.2.2.2.1, u.2.2.2.2.2.2.2.2.2.2.1, u.2.2.2.2.2.2.2.2.2.2.2.1, u.2.2.2.2.2.2.2.2.2.2.2.2.1, u.2.2.2.2.2.2.2.2.2.2.2.2.2.1, u.2.2.2.2.2.2.2.2.2.2.2.2.2.2.1, v, u.2.2.2.2.2.2.2.2.2.2.2.2.2.2.2.2)
def ztg_before (u : Zts) : (Nat → Int32) := u.2.2.2.2.2.2.2.2.2.2.2.2.2.2.2.2
def zts_before (u : Zts) (v : (Nat → Int32)) : Zts := (u.1, u.2.1, u.2.2.1, u.2.2.2.1, u.2.2.2.2.1, u.2.2.2.2.2.1, u.2.2.2.2.2.2.1, u.2.2.2.2.2.2.2.1, u.2.2.2.2.2.2.2.2.1, u.2.2.2.2.2.2.2.2.2.1, u.2.2.2.2.2.2.2.2.2.2.1, u.2.2.2.2.2.2.2.2.2.2.2.1, u.2.2.2.2.2.2.2.2.2.2.2.2.1, u.2.2.2.2.2.2.2.2.2.2.2.2.2.1, u.2.2.2.2.2.2.2.2.2.2.2.2.2.2.1, u.2.2.2.2.2.2.2.2.2.2.2.2.2.2.2.1, v)
def ZtW (k : Ztk) (u : Zts) : va_W := [(zta_this k, .inr (1, [.int (ztg_thrown u), .ref (zta_words k), .ref (zta_bytes k), .int (ztg_pc u), .int (ztg_sp u), .int (ztg_lv u), .int (ztg_cpp u), .int (ztg_top u), .int (ztg_state u), .int (ztg_cycles u), .int (ztg_done u), .int (ztg_next u), .int (ztg_amiss u), .int (ztg_unknown u), .int (ztg_writes u), .ref (zta_places k), .ref (zta_before k)])), (zta_words k, .inl (ztc_words k, 256, .inl (ztg_words u))), (zta_bytes k, .inl (ztc_bytes k, 512, .inl (ztg_bytes u))), (zta_places k, .inl (ztc_places k, 8, .inl (ztg_places u))), (zta_before k, .inl (ztc_before k, 8, .inl (ztg_before u)))]
def ZtT (k : Ztk) : List (ClassId × FieldType) := [(ztc_words k, .int), (ztc_bytes k, .int), (ztc_places k, .int), (ztc_before k, .int)]
def ZtL (k : Ztk) : List Nat := [zta_this k, zta_words k, zta_bytes k, zta_places k, zta_before k]
theorem wsX1_step_init : Cond.initialized RX1 ∈ wsX1_step := by decide +kernel
theorem wsX1_step_good : ∀ w ∈ wsX1_step, w ∈ wsX1_step ∧ ((w.onTables && w.keeps) = true ∨ ∃ ty, w = .arrayClass ty) := fun w h => ⟨h, good_of_word (List.all_eq_true.mp (show (wsX1_step).all goodWord = true by decide +kernel) w h)⟩
theorem wsX1_step_fld : ∀ w ∈ u_ws RX1 TX1 17, w ∈ wsX1_step := fun _ h => List.mem_cons_of_mem _ (List.mem_append_right _ h)
theorem wsX1_step_f_thrown : Cond.fieldLink RX1 22 "StackComputerModel" "thrown" "I" ∈ wsX1_step := by decide +kernel
theorem wsX1_step_f_words : Cond.fieldLink RX1 7 "StackComputerModel" "words" "[I" ∈ wsX1_step := by decide +kernel
theorem wsX1_step_f_bytes : Cond.fieldLink RX1 13 "StackComputerModel" "bytes" "[I" ∈ wsX1_step := by decide +kernel
theorem wsX1_step_f_pc : Cond.fieldLink RX1 30 "StackComputerModel" "pc" "I" ∈ wsX1_step := by decide +kernel
theorem wsX1_step_f_sp : Cond.fieldLink RX1 33 "StackComputerModel" "sp" "I" ∈ wsX1_step := by decide +kernel
theorem wsX1_step_f_lv : Cond.fieldLink RX1 36 "StackComputerModel" "lv" "I" ∈ wsX1_step := by decide +kernel
theorem wsX1_step_f_cpp : Cond.fieldLink RX1 39 "StackComputerModel" "cpp" "I" ∈ wsX1_step := by decide +kernel
theorem wsX1_step_f_top : Cond.fieldLink RX1 42 "StackComputerModel" "top" "I" ∈ wsX1_step := by decide +kernel
theorem wsX1_step_f_state : Cond.fieldLink RX1 45 "StackComputerModel" "state" "I" ∈ wsX1_step := by decide +kernel
theorem wsX1_step_f_cycles : Cond.fieldLink RX1 48 "StackComputerModel" "cycles" "I" ∈ wsX1_step := by decide +kernel
theorem wsX1_step_f_done : Cond.fieldLink RX1 51 "StackComputerModel" "done" "I" ∈ wsX1_step := by decide +kernel
theorem wsX1_step_f_next : Cond.fieldLink RX1 72 "StackComputerModel" "next" "I" ∈ wsX1_step := by decide +kernel
theorem wsX1_step_f_amiss : Cond.fieldLink RX1 54 "StackComputerModel" "amiss" "Z" ∈ wsX1_step := by decide +kernel
theorem wsX1_step_f_unknown : Cond.fieldLink RX1 75 "StackComputerModel" "unknown" "Z" ∈ wsX1_step := by decide +kernel
theorem wsX1_step_f_writes : Cond.fieldLink RX1 58 "StackComputerModel" "writes" "I" ∈ wsX1_step := by decide +kernel
theorem wsX1_step_f_places : Cond.fieldLink RX1 16 "StackComputerModel" "places" "[I" ∈ wsX1_step := by decide +kernel
theorem wsX1_step_f_before : Cond.fieldLink RX1 19 "StackComputerModel" "before" "[I" ∈ wsX1_step := by decide +kernel

def ZtP (k : Ztk) (u : Zts) (H : Heap) : Prop := va_P k.1 vwCl (ZtW k u) H
def ZtK (k : Ztk) (U : State) : Prop := va_K k.1 vwCl (ZtT k) U
def ZtA (k : Ztk) : Nat → Prop := fun q => q ∈ ZtL k
def ZtD (k : Ztk) : Prop := (ZtL k).Nodup
theorem zt_D {k : Ztk} (h : ZtD k) (u : Zts) : va_D (ZtA k) (ZtW k u) := z_Dof (show ((ZtW k u).map Prod.fst).Nodup from h) (fun _ h => h)
def ZtC (p : Program) (s : State) (m : MethodId) (args : Array Value) (c : Code) (cc : ByteArray) (nL : Nat) (k : Ztk) : Prop := CallFix p m c cc nL s args wsX1_step RX1 ∧ ZtK k s ∧ ZtD k
def ZtB (k : Ztk) (av : List Value) (u : Zts) : Array Value → State → Prop := fun a U => a = av.toArray ∧ ZtP k u U.heap ∧ ZtK k U
def ZtQ (k : Ztk) (v : Option Value) (u' : Zts) : Array Value → State → Outcome → State → Prop := fun _ st o t => o = .returned v ∧ ZtP k u' t.heap ∧ va_F (ZtA k) st t
theorem zt_blind {k : Ztk} {av : List Value} {u : Zts} : FrameBlind (ZtB k av u) := fun a U g mk q => ⟨q.1, q.2.1, va_K.moved (u := U) (U := U.calling g mk a) (Vm.Alike.refl U.vm) q.2.2⟩
section ZtRows
variable {p : Program} {l : Launch} {e : Env} {R : Room} {s : State} {m : MethodId} {args : Array Value} {below : List Frame} {meth : Method} {c : Code} {H : Heap} {locs : List Loc} {Q : State → Prop} {cc : ByteArray} {pc nL : Nat} {ls : Array Slot} {rest : List Value} {k : Ztk} {u : Zts} {H0 : Heap}
theorem zt_enter {y : MethodName} {maxL d : Nat} {ret : Option FieldType} {av : List Value} {v : Option Value} {u' : Zts} (hy : plainName y.cls = true) (hyc : y.cls = RX1) (hm : (lg_sl av).length ≤ maxL) (Dk : ZtD k)
    (body : ∀ (p : Program) (e : Env) (s : State) (m : MethodId) (below : List Frame) (meth : Method) (c : Code) (ls : Array Slot), ZtC p s m av.toArray c cc maxL k → meth.sig.returnType = ret → meth.locks = false → ZtP k u s.heap → lv_has ls maxL (lv_args 0 av) →
      W p l e (zrm d) s m av.toArray below meth c s.heap [] 0 0 (MQ below (ZtQ k v u') av.toArray s 0 0 (ZtA k)) (F0 m 0 ls [])) :
    Met l y (.code y cc maxL ret :: wsX1_step) (zrm d) (ZtB k av u) (ZtQ k v u') 0 0 (ZtA k) := by
  refine Met.ofW (cc := cc) (maxL := maxL) (ret := ret) hy rfl ?_
  intro p e s m args below meth c s₁ B hml hv
  obtain ⟨rfl, hP, hK⟩ := hv
  have hts := atoms_spec (ws := Cond.code y cc maxL ret :: wsX1_step) B.pre
  have hown : s.vm.findClass RX1 = some m.cls := by rw [← hyc]; exact findClass_of_methodNamed B.named
  rw [lg_entry_eq]
  exact body p e s m below meth c _ ⟨⟨B.exec, B.bytes, hml, hown, fun w h => hts w (List.mem_cons_of_mem _ h)⟩, hK, Dk⟩ B.returns B.notSynchronized hP (lv_entry av hm)
theorem zt_enterR {y : MethodName} {maxL d : Nat} {ret : Option FieldType} {av : List Value} {r : Int32} (hy : plainName y.cls = true) (hyc : y.cls = RX1) (hm : (lg_sl av).length ≤ maxL) (Dk : ZtD k)
    (body : ∀ (p : Program) (e : Env) (s : State) (m : MethodId) (below : List Frame) (meth : Method) (c : Code) (ls : Array Slot), ZtC p s m av.toArray c cc maxL k → meth.sig.returnType = ret → meth.locks = false → ZtP k u s.heap → lv_has ls maxL (lv_args 0 av) →
      W p l e (zrm d) s m av.toArray below meth c s.heap [] 0 0 (MQ below (QcRead r) av.toArray s 0 0 (fun _ => False)) (F0 m 0 ls [])) :
    Met l y (.code y cc maxL ret :: wsX1_step) (zrm d) (ZtB k av u) (QcRead r) 0 0 (fun _ => False) := by
  refine Met.ofW (cc := cc) (maxL := maxL) (ret := ret) hy rfl ?_
  intro p e s m args below meth c s₁ B hml hv
  obtain ⟨rfl, hP, hK⟩ := hv
  have hts := atoms_spec (ws := Cond.code y cc maxL ret :: wsX1_step) B.pre
  have hown : s.vm.findClass RX1 = some m.cls := by rw [← hyc]; exact findClass_of_methodNamed B.named
  rw [lg_entry_eq]
  exact body p e s m below meth c _ ⟨⟨B.exec, B.bytes, hml, hown, fun w h => hts w (List.mem_cons_of_mem _ h)⟩, hK, Dk⟩ B.returns B.notSynchronized hP (lv_entry av hm)
theorem zt_vret {u' u1 : Zts} (C : ZtC p s m args c cc nL k) (hr : meth.sig.returnType = none) (hlk : meth.locks = false) (hP : ZtP k u1 H) (hS : va_S (ZtA k) s.heap H locs) (eu : u' = u1) (hdg : decode cc pc = .ok (.return_, 1)) :
    W p l e R s m args below meth c H locs 0 0 (MQ below (ZtQ k none u') args s 0 0 (ZtA k)) (F0 m pc ls []) := by
  subst eu
  exact W.vret C.1.1 C.1.2.1 hr (fun t ht _ => ⟨rfl, by rw [ht]; exact hP, hS.F ht⟩) hS.2.2 hdg (hlocks := hlk)
theorem zt_iret {F : Int32 × Zts} {v : Int32} {u1 : Zts} (C : ZtC p s m args c cc nL k) (hr : meth.sig.returnType = some .int) (hlk : meth.locks = false) (hP : ZtP k u1 H) (hS : va_S (ZtA k) s.heap H locs) (eu : F = (v, u1)) (hdg : decode cc pc = .ok (.ireturn, 1)) :
    W p l e R s m args below meth c H locs 0 0 (MQ below (ZtQ k (some (.int F.1)) F.2) args s 0 0 (ZtA k)) (F0 m pc ls [.int v]) := by
  subst eu
  exact W.iret C.1.1 C.1.2.1 hr (fun t ht _ => ⟨rfl, by rw [ht]; exact hP, hS.F ht⟩) hS.2.2 hdg (hlocks := hlk)
theorem zt_rret {ty : FieldType} {r v : Int32} (C : ZtC p s m args c cc nL k) (hr : meth.sig.returnType = some ty) (hn : narrow ty (.int v) = .int v) (hlk : meth.locks = false) (er : r = v) (hdg : decode cc pc = .ok (.ireturn, 1)) :
    W p l e R s m args below meth c s.heap [] 0 0 (MQ below (QcRead r) args s 0 0 (fun _ => False)) (F0 m pc ls [.int v]) := z_sret C.1.1 C.1.2.1 hr hn hlk er hdg
theorem zt_cb {y : MethodName} {bytes : ByteArray} {maxL index n d : Nat} {ret : Option FieldType} (C : ZtC p s m args c cc nL k) (h1 : Cond.code y bytes maxL ret ∈ wsX1_step) (h2 : Cond.methodLink RX1 index y ∈ wsX1_step) (hyc : y.cls = RX1)
    (hd : y.cls ≠ "java/lang/invoke/MethodHandle" ∧ y.cls ≠ "java/lang/invoke/VarHandle" ∧ (parseMethodDescriptor y.desc).map (fun d => d.parameters.length) = some n) (hR : d + 1 ≤ R.frames ∧ 8 + (maxL + 11) + 40 * d ≤ R.locals) :
    CallB R s args RX1 index y bytes maxL ret (.code y bytes maxL ret :: wsX1_step) (zrm d) 0 0 n :=
  callB_of n C.1.2.2.2.2 (fun w h => by
    rcases List.mem_cons.mp h with rfl | h
    · exact wsX1_step_good _ h1
    · exact wsX1_step_good _ h) rfl rfl rfl (by rw [hyc]; exact C.1.2.2.2.2 _ wsX1_step_init) (C.1.2.2.2.2 _ h2) hd hR
theorem zt_callS {y : MethodName} {bytes : ByteArray} {maxL index n d : Nat} {ret : Option FieldType} {r : Int32} {As : List Value} (C : ZtC p s m args c cc nL k) (hM : Met l y (.code y bytes maxL ret :: wsX1_step) (zrm d) (fun a _ => a = As.toArray) (QcRead r) 0 0 (fun _ => False)) (h1 : Cond.code y bytes maxL ret ∈ wsX1_step) (h2 : Cond.methodLink RX1 index y ∈ wsX1_step) (h3 : Cond.static y ∈ wsX1_step) (hyc : y.cls = RX1)
    (hd : y.cls ≠ "java/lang/invoke/MethodHandle" ∧ y.cls ≠ "java/lang/invoke/VarHandle" ∧ (parseMethodDescriptor y.desc).map (fun d => d.parameters.length) = some n) (hsz : ls.size = nL) (hR : d + 1 ≤ R.frames ∧ 8 + (maxL + 11) + 40 * d ≤ R.locals) (hw : (rest.map fun v => v.category).sum ≤ 8) (hn : As.length = n) (hdg : decode cc pc = .ok (.invokestatic index, 3))
    (kk : W p l e R s m args below meth c H locs 0 0 Q (F0 m (pc + 3) ls (.int r :: rest))) : W p l e R s m args below meth c H locs 0 0 Q (F0 m pc ls (As.reverse ++ rest)) :=
  W.callR (W.runS C.1 hM ⟨zt_cb C h1 h2 hyc hd hR, C.1.2.2.2.2 _ h3⟩ preEq rfl hn hsz rfl (lv_room hw) hdg ⟨Nat.zero_le _, Nat.zero_le _⟩) kk
theorem zt_preV {As : List Value} (C : ZtC p s m args c cc nL k) (hP : ZtP k u H) : PreV s H RX1 (zta_this k) (ZtB k (.ref (zta_this k) :: As) u) As :=
  ⟨zt_blind, va_recv C.2.1 hP (ci := 1) (q := (RX1, TX1, 17)) (q0 := 0) rfl rfl, fun U hU hW => ⟨rfl, by rw [hU]; exact hP, va_K.moved hW.alike C.2.1⟩⟩
theorem zt_callR {y : MethodName} {bytes : ByteArray} {maxL index n d : Nat} {ret : Option FieldType} {r : Int32} {As : List Value} (C : ZtC p s m args c cc nL k) (hM : Met l y (.code y bytes maxL ret :: wsX1_step) (zrm d) (ZtB k (.ref (zta_this k) :: As) u) (QcRead r) 0 0 (fun _ => False)) (h1 : Cond.code y bytes maxL ret ∈ wsX1_step) (h2 : Cond.methodLink RX1 index y ∈ wsX1_step) (h3 : Cond.instanceMethod y ∈ wsX1_step) (h4 : Cond.selects RX1 y y ∈ wsX1_step) (hyc : y.cls = RX1)
    (hd : y.cls ≠ "java/lang/invoke/MethodHandle" ∧ y.cls ≠ "java/lang/invoke/VarHandle" ∧ (parseMethodDescriptor y.desc).map (fun d => d.parameters.length) = some n) (hP : ZtP k u H) (hsz : ls.size = nL) (hR : d + 1 ≤ R.frames ∧ 8 + (maxL + 11) + 40 * d ≤ R.locals) (hw : (rest.map fun v => v.category).sum ≤ 8) (hn : As.length = n) (hdg : decode cc pc = .ok (.invokevirtual index, 3))
    (kk : W p l e R s m args below meth c H locs 0 0 Q (F0 m (pc + 3) ls (.int r :: rest))) : W p l e R s m args below meth c H locs 0 0 Q (F0 m pc ls (As.reverse ++ .ref (zta_this k) :: rest)) :=
  W.callR (W.runV C.1 hM ⟨zt_cb C h1 h2 hyc hd hR, C.1.2.2.2.2 _ h3, C.1.2.2.2.2 _ h4⟩ (zt_preV C hP) rfl hn hsz rfl (lv_room hw) hdg ⟨Nat.zero_le _, Nat.zero_le _⟩) kk
theorem zt_callV {y : MethodName} {bytes : ByteArray} {maxL index n d : Nat} {ret : Option FieldType} {v : Option Value} {u' : Zts} {As : List Value} (C : ZtC p s m args c cc nL k) (hM : Met l y (.code y bytes maxL ret :: wsX1_step) (zrm d) (ZtB k (.ref (zta_this k) :: As) u) (ZtQ k v u') 0 0 (ZtA k)) (h1 : Cond.code y bytes maxL ret ∈ wsX1_step) (h2 : Cond.methodLink RX1 index y ∈ wsX1_step) (h3 : Cond.instanceMethod y ∈ wsX1_step) (h4 : Cond.selects RX1 y y ∈ wsX1_step) (hyc : y.cls = RX1)
    (hd : y.cls ≠ "java/lang/invoke/MethodHandle" ∧ y.cls ≠ "java/lang/invoke/VarHandle" ∧ (parseMethodDescriptor y.desc).map (fun d => d.parameters.length) = some n) (hP : ZtP k u H) (hS : va_S (ZtA k) H0 H locs) (hsz : ls.size = nL) (hR : d + 1 ≤ R.frames ∧ 8 + (maxL + 11) + 40 * d ≤ R.locals) (hw : (rest.map fun v => v.category).sum ≤ 8) (hn : As.length = n) (hdg : decode cc pc = .ok (.invokevirtual index, 3))
    (kk : ∀ (H1 : Heap) (locs1 : List Loc), ZtP k u' H1 → va_S (ZtA k) H0 H1 locs1 → W p l e R s m args below meth c H1 locs1 0 0 Q (F0 m (pc + 3) ls (v.toList ++ rest))) : W p l e R s m args below meth c H locs 0 0 Q (F0 m pc ls (As.reverse ++ .ref (zta_this k) :: rest)) := by
  intro T hT X
  obtain ⟨v', st₀, t, T', L, h0, X', hL, e1, e2, ⟨hv, hPt, hz, hk⟩, st⟩ := va_runV C.1 hM ⟨zt_cb C h1 h2 hyc hd hR, C.1.2.2.2.2 _ h3, C.1.2.2.2.2 _ h4⟩ (zt_preV C hP) rfl hn hsz rfl (lv_room hw) hdg ⟨Nat.zero_le _, Nat.zero_le _⟩ T hT X
  cases hv
  rw [h0] at hz hk
  obtain ⟨t2, a1, b1⟩ := kk T'.heap (locs ++ L) (by rw [e1]; exact hPt)
    ⟨Nat.le_trans hS.1 (by rw [e1]; exact hz), fun q g1 g2 => by rw [e1, hk q (Nat.lt_of_lt_of_le g1 hS.1) g2]; exact hS.2.1 q g1 g2, fun q hq => by
      rcases List.mem_append.mp hq with h | h
      · exact hS.2.2 q h
      · exact hL q h⟩ T' rfl X'
  exact ⟨t2, st t2 a1, b1⟩

theorem ztG_thrown {cells slots : Nat} (C : ZtC p s m args c cc nL k) (hP : ZtP k u H) (hdg : decode cc pc = .ok (.getfield 22, 3)) (kk : W p l e R s m args below meth c H locs cells slots Q (F0 m (pc + 3) ls (.int (ztg_thrown u) :: rest))) : W p l e R s m args below meth c H locs cells slots Q (F0 m pc ls (.ref (zta_this k) :: rest)) :=
  va_get (D := k.1) (ci := 1) (v := .int (ztg_thrown u)) (C := RX1) (T := TX1) (N := 17) C.1.1 C.1.2.1 C.1.2.2.2.2 wsX1_step_fld C.1.2.2.2.1 C.2.1 hP 0 rfl rfl 0 (by decide) (C.1.2.2.2.2 _ wsX1_step_f_thrown) (fun _ h => h) rfl hdg kk
theorem ztP_thrown {v : Int32} (C : ZtC p s m args c cc nL k) (hP : ZtP k u H) (hS : va_S (ZtA k) H0 H locs) (hdg : decode cc pc = .ok (.putfield 22, 3)) (kk : ∀ (u1 : Zts) (H1 : Heap) (locs1 : List Loc), u1 = zts_thrown u v → ZtP k u1 H1 → va_S (ZtA k) H0 H1 locs1 → W p l e R s m args below meth c H1 locs1 0 0 Q (F0 m (pc + 3) ls rest)) : W p l e R s m args below meth c H locs 0 0 Q (F0 m pc ls (.int v :: .ref (zta_this k) :: rest)) :=
  va_put (D := k.1) (ci := 1) (v := .int v) (ty := .int) (C := RX1) (T := TX1) (N := 17) C.1.1 C.1.2.1 C.1.2.2.2.2 wsX1_step_fld tyX1 tyX1_ok nmX1 C.1.2.2.2.1 C.2.1 hP (zt_D C.2.2 u) hS 0 rfl rfl 0 (by decide) (C.1.2.2.2.2 _ wsX1_step_f_thrown) (fun _ h => h) rfl (by decide +kernel) rfl rfl (Nat.le_of_ble_eq_true rfl) hdg (fun H1 locs1 hP1 _ hS1 => kk _ H1 locs1 rfl hP1 hS1)
theorem ztG_words {cells slots : Nat} (C : ZtC p s m args c cc nL k) (hP : ZtP k u H) (hdg : decode cc pc = .ok (.getfield 7, 3)) (kk : W p l e R s m args below meth c H locs cells slots Q (F0 m (pc + 3) ls (.ref (zta_words k) :: rest))) : W p l e R s m args below meth c H locs cells slots Q (F0 m pc ls (.ref (zta_this k) :: rest)) :=
  va_get (D := k.1) (ci := 1) (v := .ref (zta_words k)) (C := RX1) (T := TX1) (N := 17) C.1.1 C.1.2.1 C.1.2.2.2.2 wsX1_step_fld C.1.2.2.2.1 C.2.1 hP 0 rfl rfl 1 (by decide) (C.1.2.2.2.2 _ wsX1_step_f_words) (fun _ h => h) rfl hdg kk
theorem ztG_bytes {cells slots : Nat} (C : ZtC p s m args c cc nL k) (hP : ZtP k u H) (hdg : decode cc pc = .ok (.getfield 13, 3)) (kk : W p l e R s m args below meth c H locs cells slots Q (F0 m (pc + 3) ls (.ref (zta_bytes k) :: rest))) : W p l e R s m args below meth c H locs cells slots Q (F0 m pc ls (.ref (zta_this k) :: rest)) :=
  va_get (D := k.1) (ci := 1) (v := .ref (zta_bytes k)) (C := RX1) (T := TX1) (N := 17) C.1.1 C.1.2.1 C.1.2.2.2.2 wsX1_step_fld C.1.2.2.2.1 C.2.1 hP 0 rfl rfl 2 (by decide) (C.1.2.2.2.2 _ wsX1_step_f_bytes) (fun _ h => h) rfl hdg kk
theorem ztG_pc {cells slots : Nat} (C : ZtC p s m args c cc nL k) (hP : ZtP k u H) (hdg : decode cc pc = .ok (.getfield 30, 3)) (kk : W p l e R s m args below meth c H locs cells slots Q (F0 m (pc + 3) ls (.int (ztg_pc u) :: rest))) : W p l e R s m args below meth c H locs cells slots Q (F0 m pc ls (.ref (zta_this k) :: rest)) :=
  va_get (D := k.1) (ci := 1) (v := .int (ztg_pc u)) (C := RX1) (T := TX1) (N := 17) C.1.1 C.1.2.1 C.1.2.2.2.2 wsX1_step_fld C.1.2.2.2.1 C.2.1 hP 0 rfl rfl 3 (by decide) (C.1.2.2.2.2 _ wsX1_step_f_pc) (fun _ h => h) rfl hdg kk
theorem ztP_pc {v : Int32} (C : ZtC p s m args c cc nL k) (hP : ZtP k u H) (hS : va_S (ZtA k) H0 H locs) (hdg : decode cc pc = .ok (.putfield 30, 3)) (kk : ∀ (u1 : Zts) (H1 : Heap) (locs1 : List Loc), u1 = zts_pc u v → ZtP k u1 H1 → va_S (ZtA k) H0 H1 locs1 → W p l e R s m args below meth c H1 locs1 0 0 Q (F0 m (pc + 3) ls rest)) : W p l e R s m args below meth c H locs 0 0 Q (F0 m pc ls (.int v :: .ref (zta_this k) :: rest)) :=
  va_put (D := k.1) (ci := 1) (v := .int v) (ty := .int) (C := RX1) (T := TX1) (N := 17) C.1.1 C.1.2.1 C.1.2.2.2.2 wsX1_step_fld tyX1 tyX1_ok nmX1 C.1.2.2.2.1 C.2.1 hP (zt_D C.2.2 u) hS 0 rfl rfl 3 (by decide) (C.1.2.2.2.2 _ wsX1_step_f_pc) (fun _ h => h) rfl (by decide +kernel) rfl rfl (Nat.le_of_ble_eq_true rfl) hdg (fun H1 locs1 hP1 _ hS1 => kk _ H1 locs1 rfl hP1 hS1)
theorem ztG_sp {cells slots : Nat} (C : ZtC p s m args c cc nL k) (hP : ZtP k u H) (hdg : decode cc pc = .ok (.getfield 33, 3)) (kk : W p l e R s m args below meth c H locs cells slots Q (F0 m (pc + 3) ls (.int (ztg_sp u) :: rest))) : W p l e R s m args below meth c H locs cells slots Q (F0 m pc ls (.ref (zta_this k) :: rest)) :=
  va_get (D := k.1) (ci := 1) (v := .int (ztg_sp u)) (C := RX1) (T := TX1) (N := 17) C.1.1 C.1.2.1 C.1.2.2.2.2 wsX1_step_fld C.1.2.2.2.1 C.2.1 hP 0 rfl rfl 4 (by decide) (C.1.2.2.2.2 _ wsX1_step_f_sp) (fun _ h => h) rfl hdg kk
theorem ztP_sp {v : Int32} (C : ZtC p s m args c cc nL k) (hP : ZtP k u H) (hS : va_S (ZtA k) H0 H locs) (hdg : decode cc pc = .ok (.putfield 33, 3)) (kk : ∀ (u1 : Zts) (H1 : Heap) (locs1 : List Loc), u1 = zts_sp u v → ZtP k u1 H1 → va_S (ZtA k) H0 H1 locs1 → W p l e R s m args below meth c H1 locs1 0 0 Q (F0 m (pc + 3) ls rest)) : W p l e R s m args below meth c H locs 0 0 Q (F0 m pc ls (.int v :: .ref (zta_this k) :: rest)) :=
  va_put (D := k.1) (ci := 1) (v := .int v) (ty := .int) (C := RX1) (T := TX1) (N := 17) C.1.1 C.1.2.1 C.1.2.2.2.2 wsX1_step_fld tyX1 tyX1_ok nmX1 C.1.2.2.2.1 C.2.1 hP (zt_D C.2.2 u) hS 0 rfl rfl 4 (by decide) (C.1.2.2.2.2 _ wsX1_step_f_sp) (fun _ h => h) rfl (by decide +kernel) rfl rfl (Nat.le_of_ble_eq_true rfl) hdg (fun H1 locs1 hP1 _ hS1 => kk _ H1 locs1 rfl hP1 hS1)
theorem ztG_lv {cells slots : Nat} (C : ZtC p s m args c cc nL k) (hP : ZtP k u H) (hdg : decode cc pc = .ok (.getfield 36, 3)) (kk : W p l e R s m args below meth c H locs cells slots Q (F0 m (pc + 3) ls (.int (ztg_lv u) :: rest))) : W p l e R s m args below meth c H locs cells slots Q (F0 m pc ls (.ref (zta_this k) :: rest)) :=
  va_get (D := k.1) (ci := 1) (v := .int (ztg_lv u)) (C := RX1) (T := TX1) (N := 17) C.1.1 C.1.2.1 C.1.2.2.2.2 wsX1_step_fld C.1.2.2.2.1 C.2.1 hP 0 rfl rfl 5 (by decide) (C.1.2.2.2.2 _ wsX1_step_f_lv) (fun _ h => h) rfl hdg kk
theorem ztP_lv {v : Int32} (C : ZtC p s m args c cc nL k) (hP : ZtP k u H) (hS : va_S (ZtA k) H0 H locs) (hdg : decode cc pc = .ok (.putfield 36, 3)) (kk : ∀ (u1 : Zts) (H1 : Heap) (locs1 : List Loc), u1 = zts_lv u v → ZtP k u1 H1 → va_S (ZtA k) H0 H1 locs1 → W p l e R s m args below meth c H1 locs1 0 0 Q (F0 m (pc + 3) ls rest)) : W p l e R s m args below meth c H locs 0 0 Q (F0 m pc ls (.int v :: .ref (zta_this k) :: rest)) :=
  va_put (D := k.1) (ci := 1) (v := .int v) (ty := .int) (C := RX1) (T := TX1) (N := 17) C.1.1 C.1.2.1 C.1.2.2.2.2 wsX1_step_fld tyX1 tyX1_ok nmX1 C.1.2.2.2.1 C.2.1 hP (zt_D C.2.2 u) hS 0 rfl rfl 5 (by decide) (C.1.2.2.2.2 _ wsX1_step_f_lv) (fun _ h => h) rfl (by decide +kernel) rfl rfl (Nat.le_of_ble_eq_true rfl) hdg (fun H1 locs1 hP1 _ hS1 => kk _ H1 locs1 rfl hP1 hS1)
theorem ztG_cpp {cells slots : Nat} (C : ZtC p s m args c cc nL k) (hP : ZtP k u H) (hdg : decode cc pc = .ok (.getfield 39, 3)) (kk : W p l e R s m args below meth c H locs cells slots Q (F0 m (pc + 3) ls (.int (ztg_cpp u) :: rest))) : W p l e R s m args below meth c H locs cells slots Q (F0 m pc ls (.ref (zta_this k) :: rest)) :=
  va_get (D := k.1) (ci := 1) (v := .int (ztg_cpp u)) (C := RX1) (T := TX1) (N := 17) C.1.1 C.1.2.1 C.1.2.2.2.2 wsX1_step_fld C.1.2.2.2.1 C.2.1 hP 0 rfl rfl 6 (by decide) (C.1.2.2.2.2 _ wsX1_step_f_cpp) (fun _ h => h) rfl hdg kk
theorem ztP_cpp {v : Int32} (C : ZtC p s m args c cc nL k) (hP : ZtP k u H) (hS : va_S (ZtA k) H0 H locs) (hdg : decode cc pc = .ok (.putfield 39, 3)) (kk : ∀ (u1 : Zts) (H1 : Heap) (locs1 : List Loc), u1 = zts_cpp u v → ZtP k u1 H1 → va_S (ZtA k) H0 H1 locs1 → W p l e R s m args below meth c H1 locs1 0 0 Q (F0 m (pc + 3) ls rest)) : W p l e R s m args below meth c H locs 0 0 Q (F0 m pc ls (.int v :: .ref (zta_this k) :: rest)) :=
  va_put (D := k.1) (ci := 1) (v := .int v) (ty := .int) (C := RX1) (T := TX1) (N := 17) C.1.1 C.1.2.1 C.1.2.2.2.2 wsX1_step_fld tyX1 tyX1_ok nmX1 C.1.2.2.2.1 C.2.1 hP (zt_D C.2.2 u) hS 0 rfl rfl 6 (by decide) (C.1.2.2.2.2 _ wsX1_step_f_cpp) (fun _ h => h) rfl (by decide +kernel) rfl rfl (Nat.le_of_ble_eq_true rfl) hdg (fun H1 locs1 hP1 _ hS1 => kk _ H1 locs1 rfl hP1 hS1)
theorem ztG_top {cells slots : Nat} (C : ZtC p s m args c cc nL k) (hP : ZtP k u H) (hdg : decode cc pc = .ok (.getfield 42, 3)) (kk : W p l e R s m args below meth c H locs cells slots Q (F0 m (pc + 3) ls (.int (ztg_top u) :: rest))) : W p l e R s m args below meth c H locs cells slots Q (F0 m pc ls (.ref (zta_this k) :: rest)) :=
  va_get (D := k.1) (ci := 1) (v := .int (ztg_top u)) (C := RX1) (T := TX1) (N := 17) C.1.1 C.1.2.1 C.1.2.2.2.2 wsX1_step_fld C.1.2.2.2.1 C.2.1 hP 0 rfl rfl 7 (by decide) (C.1.2.2.2.2 _ wsX1_step_f_top) (fun _ h => h) rfl hdg kk
theorem ztP_top {v : Int32} (C : ZtC p s m args c cc nL k) (hP : ZtP k u H) (hS : va_S (ZtA k) H0 H locs) (hdg : decode cc pc = .ok (.putfield 42, 3)) (kk : ∀ (u1 : Zts) (H1 : Heap) (locs1 : List Loc), u1 = zts_top u v → ZtP k u1 H1 → va_S (ZtA k) H0 H1 locs1 → W p l e R s m args below meth c H1 locs1 0 0 Q (F0 m (pc + 3) ls rest)) : W p l e R s m args below meth c H locs 0 0 Q (F0 m pc ls (.int v :: .ref (zta_this k) :: rest)) :=
  va_put (D := k.1) (ci := 1) (v := .int v) (ty := .int) (C := RX1) (T := TX1) (N := 17) C.1.1 C.1.2.1 C.1.2.2.2.2 wsX1_step_fld tyX1 tyX1_ok nmX1 C.1.2.2.2.1 C.2.1 hP (zt_D C.2.2 u) hS 0 rfl rfl 7 (by decide) (C.1.2.2.2.2 _ wsX1_step_f_top) (fun _ h => h) rfl (by decide +kernel) rfl rfl (Nat.le_of_ble_eq_true rfl) hdg (fun H1 locs1 hP1 _ hS1 => kk _ H1 locs1 rfl hP1 hS1)
theorem ztG_state {cells slots : Nat} (C : ZtC p s m args c cc nL k) (hP : ZtP k u H) (hdg : decode cc pc = .ok (.getfield 45, 3)) (kk : W p l e R s m args below meth c H locs cells slots Q (F0 m (pc + 3) ls (.int (ztg_state u) :: rest))) : W p l e R s m args below meth c H locs cells slots Q (F0 m pc ls (.ref (zta_this k) :: rest)) :=
  va_get (D := k.1) (ci := 1) (v := .int (ztg_state u)) (C := RX1) (T := TX1) (N := 17) C.1.1 C.1.2.1 C.1.2.2.2.2 wsX1_step_fld C.1.2.2.2.1 C.2.1 hP 0 rfl rfl 8 (by decide) (C.1.2.2.2.2 _ wsX1_step_f_state) (fun _ h => h) rfl hdg kk
theorem ztP_state {v : Int32} (C : ZtC p s m args c cc nL k) (hP : ZtP k u H) (hS : va_S (ZtA k) H0 H locs) (hdg : decode cc pc = .ok (.putfield 45, 3)) (kk : ∀ (u1 : Zts) (H1 : Heap) (locs1 : List Loc), u1 = zts_state u v → ZtP k u1 H1 → va_S (ZtA k) H0 H1 locs1 → W p l e R s m args below meth c H1 locs1 0 0 Q (F0 m (pc + 3) ls rest)) : W p l e R s m args below meth c H locs 0 0 Q (F0 m pc ls (.int v :: .ref (zta_this k) :: rest)) :=
  va_put (D := k.1) (ci := 1) (v := .int v) (ty := .int) (C := RX1) (T := TX1) (N := 17) C.1.1 C.1.2.1 C.1.2.2.2.2 wsX1_step_fld tyX1 tyX1_ok nmX1 C.1.2.2.2.1 C.2.1 hP (zt_D C.2.2 u) hS 0 rfl rfl 8 (by decide) (C.1.2.2.2.2 _ wsX1_step_f_state) (fun _ h => h) rfl (by decide +kernel) rfl rfl (Nat.le_of_ble_eq_true rfl) hdg (fun H1 locs1 hP1 _ hS1 => kk _ H1 locs1 rfl hP1 hS1)
theorem ztG_cycles {cells slots : Nat} (C : ZtC p s m args c cc nL k) (hP : ZtP k u H) (hdg : decode cc pc = .ok (.getfield 48, 3)) (kk : W p l e R s m args below meth c H locs cells slots Q (F0 m (pc + 3) ls (.int (ztg_cycles u) :: rest))) : W p l e R s m args below meth c H locs cells slots Q (F0 m pc ls (.ref (zta_this k) :: rest)) :=
  va_get (D := k.1) (ci := 1) (v := .int (ztg_cycles u)) (C := RX1) (T := TX1) (N := 17) C.1.1 C.1.2.1 C.1.2.2.2.2 wsX1_step_fld C.1.2.2.2.1 C.2.1 hP 0 rfl rfl 9 (by decide) (C.1.2.2.2.2 _ wsX1_step_f_cycles) (fun _ h => h) rfl hdg kk
theorem ztP_cycles {v : Int32} (C : ZtC p s m args c cc nL k) (hP : ZtP k u H) (hS : va_S (ZtA k) H0 H locs) (hdg : decode cc pc = .ok (.putfield 48, 3)) (kk : ∀ (u1 : Zts) (H1 : Heap) (locs1 : List Loc), u1 = zts_cycles u v → ZtP k u1 H1 → va_S (ZtA k) H0 H1 locs1 → W p l e R s m args below meth c H1 locs1 0 0 Q (F0 m (pc + 3) ls rest)) : W p l e R s m args below meth c H locs 0 0 Q (F0 m pc ls (.int v :: .ref (zta_this k) :: rest)) :=
  va_put (D := k.1) (ci := 1) (v := .int v) (ty := .int) (C := RX1) (T := TX1) (N := 17) C.1.1 C.1.2.1 C.1.2.2.2.2 wsX1_step_fld tyX1 tyX1_ok nmX1 C.1.2.2.2.1 C.2.1 hP (zt_D C.2.2 u) hS 0 rfl rfl 9 (by decide) (C.1.2.2.2.2 _ wsX1_step_f_cycles) (fun _ h => h) rfl (by decide +kernel) rfl rfl (Nat.le_of_ble_eq_true rfl) hdg (fun H1 locs1 hP1 _ hS1 => kk _ H1 locs1 rfl hP1 hS1)
theorem ztG_done {cells slots : Nat} (C : ZtC p s m args c cc nL k) (hP : ZtP k u H) (hdg : decode cc pc = .ok (.getfield 51, 3)) (kk : W p l e R s m args below meth c H locs cells slots Q (F0 m (pc + 3) ls (.int (ztg_done u) :: rest))) : W p l e R s m args below meth c H locs cells slots Q (F0 m pc ls (.ref (zta_this k) :: rest)) :=
  va_get (D := k.1) (ci := 1) (v := .int (ztg_done u)) (C := RX1) (T := TX1) (N := 17) C.1.1 C.1.2.1 C.1.2.2.2.2 wsX1_step_fld C.1.2.2.2.1 C.2.1 hP 0 rfl rfl 10 (by decide) (C.1.2.2.2.2 _ wsX1_step_f_done) (fun _ h => h) rfl hdg kk
theorem ztP_done {v : Int32} (C : ZtC p s m args c cc nL k) (hP : ZtP k u H) (hS : va_S (ZtA k) H0 H locs) (hdg : decode cc pc = .ok (.putfield 51, 3)) (kk : ∀ (u1 : Zts) (H1 : Heap) (locs1 : List Loc), u1 = zts_done u v → ZtP k u1 H1 → va_S (ZtA k) H0 H1 locs1 → W p l e R s m args below meth c H1 locs1 0 0 Q (F0 m (pc + 3) ls rest)) : W p l e R s m args below meth c H locs 0 0 Q (F0 m pc ls (.int v :: .ref (zta_this k) :: rest)) :=
  va_put (D := k.1) (ci := 1) (v := .int v) (ty := .int) (C := RX1) (T := TX1) (N := 17) C.1.1 C.1.2.1 C.1.2.2.2.2 wsX1_step_fld tyX1 tyX1_ok nmX1 C.1.2.2.2.1 C.2.1 hP (zt_D C.2.2 u) hS 0 rfl rfl 10 (by decide) (C.1.2.2.2.2 _ wsX1_step_f_done) (fun _ h => h) rfl (by decide +kernel) rfl rfl (Nat.le_of_ble_eq_true rfl) hdg (fun H1 locs1 hP1 _ hS1 => kk _ H1 locs1 rfl hP1 hS1)
theorem ztG_next {cells slots : Nat} (C : ZtC p s m args c cc nL k) (hP : ZtP k u H) (hdg : decode cc pc = .ok (.getfield 72, 3)) (kk : W p l e R s m args below meth c H locs cells slots Q (F0 m (pc + 3) ls (.int (ztg_next u) :: rest))) : W p l e R s m args below meth c H locs cells slots Q (F0 m pc ls (.ref (zta_this k) :: rest)) :=
  va_get (D := k.1) (ci := 1) (v := .int (ztg_next u)) (C := RX1) (T := TX1) (N := 17) C.1.1 C.1.2.1 C.1.2.2.2.2 wsX1_step_fld C.1.2.2.2.1 C.2.1 hP 0 rfl rfl 11 (by decide) (C.1.2.2.2.2 _ wsX1_step_f_next) (fun _ h => h) rfl hdg kk
theorem ztP_next {v : Int32} (C : ZtC p s m args c cc nL k) (hP : ZtP k u H) (hS : va_S (ZtA k) H0 H locs) (hdg : decode cc pc = .ok (.putfield 72, 3)) (kk : ∀ (u1 : Zts) (H1 : Heap) (locs1 : List Loc), u1 = zts_next u v → ZtP k u1 H1 → va_S (ZtA k) H0 H1 locs1 → W p l e R s m args below meth c H1 locs1 0 0 Q (F0 m (pc + 3) ls rest)) : W p l e R s m args below meth c H locs 0 0 Q (F0 m pc ls (.int v :: .ref (zta_this k) :: rest)) :=
  va_put (D := k.1) (ci := 1) (v := .int v) (ty := .int) (C := RX1) (T := TX1) (N := 17) C.1.1 C.1.2.1 C.1.2.2.2.2 wsX1_step_fld tyX1 tyX1_ok nmX1 C.1.2.2.2.1 C.2.1 hP (zt_D C.2.2 u) hS 0 rfl rfl 11 (by decide) (C.1.2.2.2.2 _ wsX1_step_f_next) (fun _ h => h) rfl (by decide +kernel) rfl rfl (Nat.le_of_ble_eq_true rfl) hdg (fun H1 locs1 hP1 _ hS1 => kk _ H1 locs1 rfl hP1 hS1)
theorem ztG_amiss {cells slots : Nat} (C : ZtC p s m args c cc nL k) (hP : ZtP k u H) (hdg : decode cc pc = .ok (.getfield 54, 3)) (kk : W p l e R s m args below meth c H locs cells slots Q (F0 m (pc + 3) ls (.int (ztg_amiss u) :: rest))) : W p l e R s m args below meth c H locs cells slots Q (F0 m pc ls (.ref (zta_this k) :: rest)) :=
  va_get (D := k.1) (ci := 1) (v := .int (ztg_amiss u)) (C := RX1) (T := TX1) (N := 17) C.1.1 C.1.2.1 C.1.2.2.2.2 wsX1_step_fld C.1.2.2.2.1 C.2.1 hP 0 rfl rfl 12 (by decide) (C.1.2.2.2.2 _ wsX1_step_f_amiss) (fun _ h => h) rfl hdg kk
theorem ztP_amiss {v : Int32} (C : ZtC p s m args c cc nL k) (hP : ZtP k u H) (hS : va_S (ZtA k) H0 H locs) (hn : narrow .boolean (.int v) = .int v) (hf : fits .boolean (.int v) = true) (hdg : decode cc pc = .ok (.putfield 54, 3)) (kk : ∀ (u1 : Zts) (H1 : Heap) (locs1 : List Loc), u1 = zts_amiss u v → ZtP k u1 H1 → va_S (ZtA k) H0 H1 locs1 → W p l e R s m args below meth c H1 locs1 0 0 Q (F0 m (pc + 3) ls rest)) : W p l e R s m args below meth c H locs 0 0 Q (F0 m pc ls (.int v :: .ref (zta_this k) :: rest)) :=
  va_put (D := k.1) (ci := 1) (v := .int v) (ty := .boolean) (C := RX1) (T := TX1) (N := 17) C.1.1 C.1.2.1 C.1.2.2.2.2 wsX1_step_fld tyX1 tyX1_ok nmX1 C.1.2.2.2.1 C.2.1 hP (zt_D C.2.2 u) hS 0 rfl rfl 12 (by decide) (C.1.2.2.2.2 _ wsX1_step_f_amiss) (fun _ h => h) rfl (by decide +kernel) hn hf (Nat.le_of_ble_eq_true rfl) hdg (fun H1 locs1 hP1 _ hS1 => kk _ H1 locs1 rfl hP1 hS1)
theorem ztG_unknown {cells slots : Nat} (C : ZtC p s m args c cc nL k) (hP : ZtP k u H) (hdg : decode cc pc = .ok (.getfield 75, 3)) (kk : W p l e R s m args below meth c H locs cells slots Q (F0 m (pc + 3) ls (.int (ztg_unknown u) :: rest))) : W p l e R s m args below meth c H locs cells slots Q (F0 m pc ls (.ref (zta_this k) :: rest)) :=
  va_get (D := k.1) (ci := 1) (v := .int (ztg_unknown u)) (C := RX1) (T := TX1) (N := 17) C.1.1 C.1.2.1 C.1.2.2.2.2 wsX1_step_fld C.1.2.2.2.1 C.2.1 hP 0 rfl rfl 13 (by decide) (C.1.2.2.2.2 _ wsX1_step_f_unknown) (fun _ h => h) rfl hdg kk
theorem ztP_unknown {v : Int32} (C : ZtC p s m args c cc nL k) (hP : ZtP k u H) (hS : va_S (ZtA k) H0 H locs) (hn : narrow .boolean (.int v) = .int v) (hf : fits .boolean (.int v) = true) (hdg : decode cc pc = .ok (.putfield 75, 3)) (kk : ∀ (u1 : Zts) (H1 : Heap) (locs1 : List Loc), u1 = zts_unknown u v → ZtP k u1 H1 → va_S (ZtA k) H0 H1 locs1 → W p l e R s m args below meth c H1 locs1 0 0 Q (F0 m (pc + 3) ls rest)) : W p l e R s m args below meth c H locs 0 0 Q (F0 m pc ls (.int v :: .ref (zta_this k) :: rest)) :=
  va_put (D := k.1) (ci := 1) (v := .int v) (ty := .boolean) (C := RX1) (T := TX1) (N := 17) C.1.1 C.1.2.1 C.1.2.2.2.2 wsX1_step_fld tyX1 tyX1_ok nmX1 C.1.2.2.2.1 C.2.1 hP (zt_D C.2.2 u) hS 0 rfl rfl 13 (by decide) (C.1.2.2.2.2 _ wsX1_step_f_unknown) (fun _ h => h) rfl (by decide +kernel) hn hf (Nat.le_of_ble_eq_true rfl) hdg (fun H1 locs1 hP1 _ hS1 => kk _ H1 locs1 rfl hP1 hS1)
theorem ztG_writes {cells slots : Nat} (C : ZtC p s m args c cc nL k) (hP : ZtP k u H) (hdg : decode cc pc = .ok (.getfield 58, 3)) (kk : W p l e R s m args below meth c H locs cells slots Q (F0 m (pc + 3) ls (.int (ztg_writes u) :: rest))) : W p l e R s m args below meth c H locs cells slots Q (F0 m pc ls (.ref (zta_this k) :: rest)) :=
  va_get (D := k.1) (ci := 1) (v := .int (ztg_writes u)) (C := RX1) (T := TX1) (N := 17) C.1.1 C.1.2.1 C.1.2.2.2.2 wsX1_step_fld C.1.2.2.2.1 C.2.1 hP 0 rfl rfl 14 (by decide) (C.1.2.2.2.2 _ wsX1_step_f_writes) (fun _ h => h) rfl hdg kk
theorem ztP_writes {v : Int32} (C : ZtC p s m args c cc nL k) (hP : ZtP k u H) (hS : va_S (ZtA k) H0 H locs) (hdg : decode cc pc = .ok (.putfield 58, 3)) (kk : ∀ (u1 : Zts) (H1 : Heap) (locs1 : List Loc), u1 = zts_writes u v → ZtP k u1 H1 → va_S (ZtA k) H0 H1 locs1 → W p l e R s m args below meth c H1 locs1 0 0 Q (F0 m (pc + 3) ls rest)) : W p l e R s m args below meth c H locs 0 0 Q (F0 m pc ls (.int v :: .ref (zta_this k) :: rest)) :=
  va_put (D := k.1) (ci := 1) (v := .int v) (ty := .int) (C := RX1) (T := TX1) (N := 17) C.1.1 C.1.2.1 C.1.2.2.2.2 wsX1_step_fld tyX1 tyX1_ok nmX1 C.1.2.2.2.1 C.2.1 hP (zt_D C.2.2 u) hS 0 rfl rfl 14 (by decide) (C.1.2.2.2.2 _ wsX1_step_f_writes) (fun _ h => h) rfl (by decide +kernel) rfl rfl (Nat.le_of_ble_eq_true rfl) hdg (fun H1 locs1 hP1 _ hS1 => kk _ H1 locs1 rfl hP1 hS1)
theorem ztG_places {cells slots : Nat} (C : ZtC p s m args c cc nL k) (hP : ZtP k u H) (hdg : decode cc pc = .ok (.getfield 16, 3)) (kk : W p l e R s m args below meth c H locs cells slots Q (F0 m (pc + 3) ls (.ref (zta_places k) :: rest))) : W p l e R s m args below meth c H locs cells slots Q (F0 m pc ls (.ref (zta_this k) :: rest)) :=
  va_get (D := k.1) (ci := 1) (v := .ref (zta_places k)) (C := RX1) (T := TX1) (N := 17) C.1.1 C.1.2.1 C.1.2.2.2.2 wsX1_step_fld C.1.2.2.2.1 C.2.1 hP 0 rfl rfl 15 (by decide) (C.1.2.2.2.2 _ wsX1_step_f_places) (fun _ h => h) rfl hdg kk
theorem ztG_before {cells slots : Nat} (C : ZtC p s m args c cc nL k) (hP : ZtP k u H) (hdg : decode cc pc = .ok (.getfield 19, 3)) (kk : W p l e R s m args below meth c H locs cells slots Q (F0 m (pc + 3) ls (.ref (zta_before k) :: rest))) : W p l e R s m args below meth c H locs cells slots Q (F0 m pc ls (.ref (zta_this k) :: rest)) :=
  va_get (D := k.1) (ci := 1) (v := .ref (zta_before k)) (C := RX1) (T := TX1) (N := 17) C.1.1 C.1.2.1 C.1.2.2.2.2 wsX1_step_fld C.1.2.2.2.1 C.2.1 hP 0 rfl rfl 16 (by decide) (C.1.2.2.2.2 _ wsX1_step_f_before) (fun _ h => h) rfl hdg kk
theorem ztL_words {cells slots : Nat} {i : Int32} (C : ZtC p s m args c cc nL k) (hP : ZtP k u H) (hin : vp_in i 256) (hdg : decode cc pc = .ok (.iaload, 1)) (kk : W p l e R s m args below meth c H locs cells slots Q (F0 m (pc + 1) ls (.int (ztg_words u i.toNatClampNeg) :: rest))) : W p l e R s m args below meth c H locs cells slots Q (F0 m pc ls (.int i :: .ref (zta_words k) :: rest)) :=
  va_iald (D := k.1) (f := ztg_words u) C.1.1 C.1.2.1 C.2.1 hP 1 0 rfl rfl hin hdg kk
theorem ztS_words {i v : Int32} (C : ZtC p s m args c cc nL k) (hP : ZtP k u H) (hS : va_S (ZtA k) H0 H locs) (hin : vp_in i 256) (hdg : decode cc pc = .ok (.iastore, 1)) (kk : ∀ (u1 : Zts) (H1 : Heap) (locs1 : List Loc), u1 = zts_words u (upd (ztg_words u) i.toNatClampNeg v) → ZtP k u1 H1 → va_S (ZtA k) H0 H1 locs1 → W p l e R s m args below meth c H1 locs1 0 0 Q (F0 m (pc + 1) ls rest)) : W p l e R s m args below meth c H locs 0 0 Q (F0 m pc ls (.int v :: .int i :: .ref (zta_words k) :: rest)) :=
  va_iast (D := k.1) (f := ztg_words u) C.1.1 C.1.2.1 C.2.1 hP (zt_D C.2.2 u) hS 1 0 rfl rfl hin hdg (fun H1 locs1 hP1 _ hS1 => kk _ H1 locs1 rfl hP1 hS1)
theorem ztL_bytes {cells slots : Nat} {i : Int32} (C : ZtC p s m args c cc nL k) (hP : ZtP k u H) (hin : vp_in i 512) (hdg : decode cc pc = .ok (.iaload, 1)) (kk : W p l e R s m args below meth c H locs cells slots Q (F0 m (pc + 1) ls (.int (ztg_bytes u i.toNatClampNeg) :: rest))) : W p l e R s m args below meth c H locs cells slots Q (F0 m pc ls (.int i :: .ref (zta_bytes k) :: rest)) :=
  va_iald (D := k.1) (f := ztg_bytes u) C.1.1 C.1.2.1 C.2.1 hP 2 1 rfl rfl hin hdg kk
theorem ztS_bytes {i v : Int32} (C : ZtC p s m args c cc nL k) (hP : ZtP k u H) (hS : va_S (ZtA k) H0 H locs) (hin : vp_in i 512) (hdg : decode cc pc = .ok (.iastore, 1)) (kk : ∀ (u1 : Zts) (H1 : Heap) (locs1 : List Loc), u1 = zts_bytes u (upd (ztg_bytes u) i.toNatClampNeg v) → ZtP k u1 H1 → va_S (ZtA k) H0 H1 locs1 → W p l e R s m args below meth c H1 locs1 0 0 Q (F0 m (pc + 1) ls rest)) : W p l e R s m args below meth c H locs 0 0 Q (F0 m pc ls (.int v :: .int i :: .ref (zta_bytes k) :: rest)) :=
  va_iast (D := k.1) (f := ztg_bytes u) C.1.1 C.1.2.1 C.2.1 hP (zt_D C.2.2 u) hS 2 1 rfl rfl hin hdg (fun H1 locs1 hP1 _ hS1 => kk _ H1 locs1 rfl hP1 hS1)
theorem ztL_places {cells slots : Nat} {i : Int32} (C : ZtC p s m args c cc nL k) (hP : ZtP k u H) (hin : vp_in i 8) (hdg : decode cc pc = .ok (.iaload, 1)) (kk : W p l e R s m args below meth c H locs cells slots Q (F0 m (pc + 1) ls (.int (ztg_places u i.toNatClampNeg) :: rest))) : W p l e R s m args below meth c H locs cells slots Q (F0 m pc ls (.int i :: .ref (zta_places k) :: rest)) :=
  va_iald (D := k.1) (f := ztg_places u) C.1.1 C.1.2.1 C.2.1 hP 3 2 rfl rfl hin hdg kk
theorem ztS_places {i v : Int32} (C : ZtC p s m args c cc nL k) (hP : ZtP k u H) (hS : va_S (ZtA k) H0 H locs) (hin : vp_in i 8) (hdg : decode cc pc = .ok (.iastore, 1)) (kk : ∀ (u1 : Zts) (H1 : Heap) (locs1 : List Loc), u1 = zts_places u (upd (ztg_places u) i.toNatClampNeg v) → ZtP k u1 H1 → va_S (ZtA k) H0 H1 locs1 → W p l e R s m args below meth c H1 locs1 0 0 Q (F0 m (pc + 1) ls rest)) : W p l e R s m args below meth c H locs 0 0 Q (F0 m pc ls (.int v :: .int i :: .ref (zta_places k) :: rest)) :=
  va_iast (D := k.1) (f := ztg_places u) C.1.1 C.1.2.1 C.2.1 hP (zt_D C.2.2 u) hS 3 2 rfl rfl hin hdg (fun H1 locs1 hP1 _ hS1 => kk _ H1 locs1 rfl hP1 hS1)
theorem ztL_before {cells slots : Nat} {i : Int32} (C : ZtC p s m args c cc nL k) (hP : ZtP k u H) (hin : vp_in i 8) (hdg : decode cc pc = .ok (.iaload, 1)) (kk : W p l e R s m args below meth c H locs cells slots Q (F0 m (pc + 1) ls (.int (ztg_before u i.toNatClampNeg) :: rest))) : W p l e R s m args below meth c H locs cells slots Q (F0 m pc ls (.int i :: .ref (zta_before k) :: rest)) :=
  va_iald (D := k.1) (f := ztg_before u) C.1.1 C.1.2.1 C.2.1 hP 4 3 rfl rfl hin hdg kk
theorem ztS_before {i v : Int32} (C : ZtC p s m args c cc nL k) (hP : ZtP k u H) (hS : va_S (ZtA k) H0 H locs) (hin : vp_in i 8) (hdg : decode cc pc = .ok (.iastore, 1)) (kk : ∀ (u1 : Zts) (H1 : Heap) (locs1 : List Loc), u1 = zts_before u (upd (ztg_before u) i.toNatClampNeg v) → ZtP k u1 H1 → va_S (ZtA k) H0 H1 locs1 → W p l e R s m args below meth c H1 locs1 0 0 Q (F0 m (pc + 1) ls rest)) : W p l e R s m args below meth c H locs 0 0 Q (F0 m pc ls (.int v :: .int i :: .ref (zta_before k) :: rest)) :=
  va_iast (D := k.1) (f := ztg_before u) C.1.1 C.1.2.1 C.2.1 hP (zt_D C.2.2 u) hS 4 3 rfl rfl hin hdg (fun H1 locs1 hP1 _ hS1 => kk _ H1 locs1 rfl hP1 hS1)
end ZtRows
theorem wsX1_step_c_isWord : Cond.code yX1_isWord cX1_isWord 1 (some .boolean) ∈ wsX1_step := by decide +kernel
theorem wsX1_step_l_isWord : Cond.methodLink RX1 26 yX1_isWord ∈ wsX1_step := by decide +kernel
theorem wsX1_step_s_isWord : Cond.static yX1_isWord ∈ wsX1_step := by decide +kernel
theorem wsX1_step_c_byteAt : Cond.code yX1_byteAt cX1_byteAt 3 (some .int) ∈ wsX1_step := by decide +kernel
theorem wsX1_step_l_byteAt : Cond.methodLink RX1 61 yX1_byteAt ∈ wsX1_step := by decide +kernel
theorem wsX1_step_i_byteAt : Cond.instanceMethod yX1_byteAt ∈ wsX1_step := by decide +kernel
theorem wsX1_step_v_byteAt : Cond.selects RX1 yX1_byteAt yX1_byteAt ∈ wsX1_step := by decide +kernel
theorem wsX1_step_c_read : Cond.code yX1_read cX1_read 2 (some .int) ∈ wsX1_step := by decide +kernel
theorem wsX1_step_l_read : Cond.methodLink RX1 65 yX1_read ∈ wsX1_step := by decide +kernel
theorem wsX1_step_i_read : Cond.instanceMethod yX1_read ∈ wsX1_step := by decide +kernel
theorem wsX1_step_v_read : Cond.selects RX1 yX1_read yX1_read ∈ wsX1_step := by decide +kernel
theorem wsX1_step_c_write : Cond.code yX1_write cX1_write 3 none ∈ wsX1_step := by decide +kernel
theorem wsX1_step_l_write : Cond.methodLink RX1 68 yX1_write ∈ wsX1_step := by decide +kernel
theorem wsX1_step_i_write : Cond.instanceMethod yX1_write ∈ wsX1_step := by decide +kernel
theorem wsX1_step_v_write : Cond.selects RX1 yX1_write yX1_write ∈ wsX1_step := by decide +kernel
theorem wsX1_step_c_pair : Cond.code yX1_pair cX1_pair 3 (some .int) ∈ wsX1_step := by decide +kernel
theorem wsX1_step_l_pair : Cond.methodLink RX1 78 yX1_pair ∈ wsX1_step := by decide +kernel
theorem wsX1_step_i_pair : Cond.instanceMethod yX1_pair ∈ wsX1_step := by decide +kernel
theorem wsX1_step_v_pair : Cond.selects RX1 yX1_pair yX1_pair ∈ wsX1_step := by decide +kernel
theorem wsX1_step_c_push : Cond.code yX1_push cX1_push 4 (some .int) ∈ wsX1_step := by decide +kernel
theorem wsX1_step_l_push : Cond.methodLink RX1 81 yX1_push ∈ wsX1_step := by decide +kernel
theorem wsX1_step_i_push : Cond.instanceMethod yX1_push ∈ wsX1_step := by decide +kernel
theorem wsX1_step_v_push : Cond.selects RX1 yX1_push yX1_push ∈ wsX1_step := by decide +kernel
theorem wsX1_step_c_store : Cond.code yX1_store cX1_store 4 (some .int) ∈ wsX1_step := by decide +kernel
theorem wsX1_step_l_store : Cond.methodLink RX1 85 yX1_store ∈ wsX1_step := by decide +kernel
theorem wsX1_step_i_store : Cond.instanceMethod yX1_store ∈ wsX1_step := by decide +kernel
theorem wsX1_step_v_store : Cond.selects RX1 yX1_store yX1_store ∈ wsX1_step := by decide +kernel
theorem wsX1_step_c_signed : Cond.code yX1_signed cX1_signed 2 (some .int) ∈ wsX1_step := by decide +kernel
theorem wsX1_step_l_signed : Cond.methodLink RX1 88 yX1_signed ∈ wsX1_step := by decide +kernel
theorem wsX1_step_s_signed : Cond.static yX1_signed ∈ wsX1_step := by decide +kernel
theorem wsX1_step_c_jump : Cond.code yX1_jump cX1_jump 4 (some .int) ∈ wsX1_step := by decide +kernel
theorem wsX1_step_l_jump : Cond.methodLink RX1 92 yX1_jump ∈ wsX1_step := by decide +kernel
theorem wsX1_step_i_jump : Cond.instanceMethod yX1_jump ∈ wsX1_step := by decide +kernel
theorem wsX1_step_v_jump : Cond.selects RX1 yX1_jump yX1_jump ∈ wsX1_step := by decide +kernel
theorem wsX1_step_c_reckon : Cond.code yX1_reckon cX1_reckon 3 (some .int) ∈ wsX1_step := by decide +kernel
theorem wsX1_step_l_reckon : Cond.methodLink RX1 96 yX1_reckon ∈ wsX1_step := by decide +kernel
theorem wsX1_step_i_reckon : Cond.instanceMethod yX1_reckon ∈ wsX1_step := by decide +kernel
theorem wsX1_step_v_reckon : Cond.selects RX1 yX1_reckon yX1_reckon ∈ wsX1_step := by decide +kernel
theorem wsX1_step_c_swap : Cond.code yX1_swap cX1_swap 2 (some .int) ∈ wsX1_step := by decide +kernel
theorem wsX1_step_l_swap : Cond.methodLink RX1 99 yX1_swap ∈ wsX1_step := by decide +kernel
theorem wsX1_step_i_swap : Cond.instanceMethod yX1_swap ∈ wsX1_step := by decide +kernel
theorem wsX1_step_v_swap : Cond.selects RX1 yX1_swap yX1_swap ∈ wsX1_step := by decide +kernel
theorem wsX1_step_c_wide : Cond.code yX1_wide cX1_wide 3 (some .int) ∈ wsX1_step := by decide +kernel
theorem wsX1_step_l_wide : Cond.methodLink RX1 103 yX1_wide ∈ wsX1_step := by decide +kernel
theorem wsX1_step_i_wide : Cond.instanceMethod yX1_wide ∈ wsX1_step := by decide +kernel
theorem wsX1_step_v_wide : Cond.selects RX1 yX1_wide yX1_wide ∈ wsX1_step := by decide +kernel
theorem wsX1_step_c_increase : Cond.code yX1_increase cX1_increase 3 (some .int) ∈ wsX1_step := by decide +kernel
theorem wsX1_step_l_increase : Cond.methodLink RX1 106 yX1_increase ∈ wsX1_step := by decide +kernel
theorem wsX1_step_i_increase : Cond.instanceMethod yX1_increase ∈ wsX1_step := by decide +kernel
theorem wsX1_step_v_increase : Cond.selects RX1 yX1_increase yX1_increase ∈ wsX1_step := by decide +kernel
theorem wsX1_step_c_ifs : Cond.code yX1_ifs cX1_ifs 4 (some .int) ∈ wsX1_step := by decide +kernel
theorem wsX1_step_l_ifs : Cond.methodLink RX1 109 yX1_ifs ∈ wsX1_step := by decide +kernel
theorem wsX1_step_i_ifs : Cond.instanceMethod yX1_ifs ∈ wsX1_step := by decide +kernel
theorem wsX1_step_v_ifs : Cond.selects RX1 yX1_ifs yX1_ifs ∈ wsX1_step := by decide +kernel
theorem wsX1_step_c_call : Cond.code yX1_call cX1_call 6 (some .int) ∈ wsX1_step := by decide +kernel
theorem wsX1_step_l_call : Cond.methodLink RX1 112 yX1_call ∈ wsX1_step := by decide +kernel
theorem wsX1_step_i_call : Cond.instanceMethod yX1_call ∈ wsX1_step := by decide +kernel
theorem wsX1_step_v_call : Cond.selects RX1 yX1_call yX1_call ∈ wsX1_step := by decide +kernel
theorem wsX1_step_c_giveBack : Cond.code yX1_giveBack cX1_giveBack 2 (some .int) ∈ wsX1_step := by decide +kernel
theorem wsX1_step_l_giveBack : Cond.methodLink RX1 115 yX1_giveBack ∈ wsX1_step := by decide +kernel
theorem wsX1_step_i_giveBack : Cond.instanceMethod yX1_giveBack ∈ wsX1_step := by decide +kernel
theorem wsX1_step_v_giveBack : Cond.selects RX1 yX1_giveBack yX1_giveBack ∈ wsX1_step := by decide +kernel
theorem wsX1_step_c_perform : Cond.code yX1_perform cX1_perform 2 (some .int) ∈ wsX1_step := by decide +kernel
theorem wsX1_step_l_perform : Cond.methodLink RX1 118 yX1_perform ∈ wsX1_step := by decide +kernel
theorem wsX1_step_i_perform : Cond.instanceMethod yX1_perform ∈ wsX1_step := by decide +kernel
theorem wsX1_step_v_perform : Cond.selects RX1 yX1_perform yX1_perform ∈ wsX1_step := by decide +kernel
