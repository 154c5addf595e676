
def zrL : Room := { frames := 7, cells := 1, slots := 6, locals := 270 }
def zJW (aJ : Nat) (cJ : ClassId) (f : Nat → Int64) : va_W := [(aJ, .inl (cJ, 1, .inr (.inl f)))]
def ZlA (k : Zxk) (aJ : Nat) : Nat → Prop := fun q => ZxA k q ∨ q = aJ
def ZlB (k : Zxk) (aJ : Nat) (cJ : ClassId) (f : Nat → Int64) (av : List Value) (u : Zxs) : Array Value → State → Prop := fun a U => ZxBE k av u a U ∧ va_P k.1 vwCl (zJW aJ cJ f) U.heap ∧ va_K k.1 vwCl [(cJ, .long)] U
def ZlQ (k : Zxk) (aJ : Nat) (cJ : ClassId) (r : Int32 × Zxs × (Nat → Int64)) : Array Value → State → Outcome → State → Prop := fun _ st o t => o = .returned (some (.int r.1)) ∧ ZxP k r.2.1 t.heap ∧ va_P k.1 vwCl (zJW aJ cJ r.2.2) t.heap ∧ va_F (ZlA k aJ) st t
theorem zl_blind {k : Zxk} {aJ : Nat} {cJ : ClassId} {f : Nat → Int64} {av : List Value} {u : Zxs} : FrameBlind (ZlB k aJ cJ f av u) := fun a U g mk q => ⟨zx_blindE a U g mk q.1, q.2.1, va_K.moved (u := U) (U := U.calling g mk a) (Vm.Alike.refl U.vm) q.2.2⟩
theorem zJ_kept {k : Zxk} {aJ : Nat} {cJ : ClassId} {f : Nat → Int64} {A : Nat → Prop} {H H1 : Heap} (hJ : ¬ A aJ) (hPJ : va_P k.1 vwCl (zJW aJ cJ f) H) (hk : ∀ q : Nat, q < H.size → ¬ A q → H1[q]? = H[q]?) : va_P k.1 vwCl (zJW aJ cJ f) H1 :=
  hPJ.kept (fun j x hx => by
    match j, hx with
    | 0, hx => cases hx; exact hk _ (hPJ 0 _ rfl).lt hJ
    | j + 1, hx => simp [zJW] at hx)
section
variable {p : Program} {l : Launch} {e : Env} {R : Room} {s : State} {m : MethodId} {args : Array Value} {below : List Frame} {meth : Method} {c : Code} {H : Heap} {locs : List Loc} {cells slots : Nat} {Q : State → Prop} {cc : ByteArray} {pc nL : Nat} {ls : Array Slot} {rest : List Value} {k : Zxk} {u : Zxs} {H0 : Heap} {Ts ws : List Cond} {own C : String} {rm : Room} {aJ : Nat} {cJ : ClassId} {f : Nat → Int64}
theorem zl_cw {y : MethodName} {bytes : ByteArray} {maxL index n mc ms : Nat} {ret : Option FieldType} (S : CallFix p m c cc nL s args Ts own) (hg : ∀ w ∈ ws, w ∈ Ts ∧ goodWord w = true) (h1 : Cond.code y bytes maxL ret ∈ Ts) (hrc : rm.cells = mc) (hrs : rm.slots = ms) (hi : Cond.initialized y.cls ∈ Ts) (h2 : Cond.methodLink own index y ∈ Ts) (h3 : Cond.instanceMethod y ∈ Ts) (h4 : Cond.selects C y y ∈ Ts)
    (hd : y.cls ≠ "java/lang/invoke/MethodHandle" ∧ y.cls ≠ "java/lang/invoke/VarHandle" ∧ (parseMethodDescriptor y.desc).map (fun d => d.parameters.length) = some n) (hR : rm.frames + 1 ≤ R.frames ∧ 8 + (maxL + 11) + rm.locals ≤ R.locals) :
    CallW R s args own C index y bytes maxL ret (.code y bytes maxL ret :: ws) rm mc ms n :=
  ⟨callB_of n S.2.2.2.2 (fun w h => by
    rcases List.mem_cons.mp h with rfl | h
    · exact ⟨h1, good_of_word rfl⟩
    · exact ⟨(hg _ h).1, good_of_word (hg _ h).2⟩) rfl hrc hrs (S.2.2.2.2 _ hi) (S.2.2.2.2 _ h2) hd hR, S.2.2.2.2 _ h3, S.2.2.2.2 _ h4⟩
theorem zl_enter {y : MethodName} {hh : List (Nat × Nat × Nat × Nat)} {ex : List Cond} {av : List Value} {r : Int32 × Zxs × (Nat → Int64)} (hy : plainName y.cls = true) (hyc : y.cls = RL) (hm : (lg_sl av).length ≤ 4)
    (body : ∀ (p : Program) (e : Env) (s : State) (m : MethodId) (below : List Frame) (meth : Method) (c : Code) (ls : Array Slot), CallFix p m c cc 4 s av.toArray (ex ++ zwX) RL → c.exceptionTable.toList = tableOf hh → meth.sig.returnType = some .int → meth.locks = false → ZlB k aJ cJ f av u av.toArray s → lv_has ls 4 (lv_args 0 av) →
      W p l e zrL s m av.toArray below meth c s.heap [] 0 0 (MQ below (ZlQ k aJ cJ r) av.toArray s 1 6 (ZlA k aJ)) (F0 m 0 ls [])) :
    Met l y (.codeWith y cc 4 (some .int) hh :: (ex ++ zwX)) zrL (ZlB k aJ cJ f av u) (ZlQ k aJ cJ r) 1 6 (ZlA k aJ) := by
  refine va_MetW (cc := cc) (maxL := 4) (ret := some .int) (hh := hh) hy rfl ?_
  intro p e s m args below meth c s₁ B hml hv
  obtain rfl : args = av.toArray := hv.1.1.1
  have hts := atoms_spec (ws := Cond.codeWith y cc 4 (some .int) hh :: (ex ++ zwX)) B.pre
  have hown : s.vm.findClass RL = some m.cls := by rw [← hyc]; exact findClass_of_methodNamed B.named
  rw [lg_entry_eq]
  exact body p e s m below meth c _ ⟨B.exec, B.bytes, hml, hown, fun w h => hts w (List.mem_cons_of_mem _ h)⟩ (vx_table (x := y) B (hts _ List.mem_cons_self)) B.returns B.notSynchronized hv (lv_entry av hm)
theorem zl_ret {F : Int32 × Zxs × (Nat → Int64)} {v : Int32} {u1 : Zxs} {f1 : Nat → Int64} (hx : p.tables.exec = Jvm.exec) (hb : c.code = cc) (hr : meth.sig.returnType = some .int) (hlk : meth.locks = false) (hP : ZxP k u1 H) (hPJ : va_P k.1 vwCl (zJW aJ cJ f1) H) (hS : va_S (ZlA k aJ) s.heap H locs) (eu : F = (v, u1, f1)) (hc : cells ≤ 1) (hs : slots ≤ 6) (hdg : decode cc pc = .ok (.ireturn, 1)) :
    W p l e R s m args below meth c H locs cells slots (MQ below (ZlQ k aJ cJ F) args s 1 6 (ZlA k aJ)) (F0 m pc ls [.int v]) := by
  subst eu
  refine W.widen (k := 1) (n := 6) hc hs ?_
  exact W.iret hx hb hr (fun t ht _ => ⟨rfl, by rw [ht]; exact hP, by rw [ht]; exact hPJ, hS.F ht⟩) hS.2.2 hdg (hlocks := hlk)
/-- a call that throws, caught here -/
theorem zl_throw {y : MethodName} {bytes : ByteArray} {maxL index n : Nat} {ret : Option FieldType} {cls : String} {As : List Value} (S : CallFix p m c cc nL s args Ts RL) (K : ZxK k s) (hE : ZxE (ZxA k) s) (hM : vx_Met l y ws rm (ZxBE k (.ref (zxa_this k) :: As) u) (fun _ _ _ _ => False) (ZxX cls) 1 6 (fun _ => False))
    (cw : CallW R s args RL RX0 index y bytes maxL ret ws rm 1 6 n) (hP : ZxP k u s.heap) (hPJ : va_P k.1 vwCl (zJW aJ cJ f) s.heap) (hsz : ls.size = nL) (hw : (rest.map fun v => v.category).sum ≤ 8) (hn : As.length = n) (hdg : decode cc pc = .ok (.invokevirtual index, 3)) (hf : 0 + 1 ≤ R.cells ∧ 0 + 6 ≤ R.slots)
    (pre : List ExceptionTableEntry) (x : ExceptionTableEntry) (suf : List ExceptionTableEntry) (hsplit : c.exceptionTable.toList = pre ++ x :: suf)
    (hpass : ∀ z ∈ pre, covers z pc = false ∨ (z.catchType ≠ 0 ∧ ∃ nm : String, (Cond.classLink RL z.catchType nm).before args s = true ∧ va_Nc cls nm s)) (hcov : covers x pc = true) (h0 : x.catchType ≠ 0) (hlink : (Cond.classLink RL x.catchType cls).before args s = true) (hcast : va_Nw (.castable cls cls) s)
    (kk : ∀ (q : Nat) (H1 : Heap), ZxP k u H1 → va_P k.1 vwCl (zJW aJ cJ f) H1 → va_S (ZlA k aJ) s.heap H1 [] → W p l e R s m args below meth c H1 [] 1 6 Q (F0 m x.handlerPc ls [.ref q])) :
    W p l e R s m args below meth c s.heap [] 0 0 Q (F0 m pc ls (As.reverse ++ .ref (zxa_this k) :: rest)) := by
  intro T hT X
  have hp : PreV s s.heap RX0 (zxa_this k) (ZxBE k (.ref (zxa_this k) :: As) u) As := ⟨zx_blindE, va_recv K hP (ci := 0) (q := (RX0, TX0, 10)) (q0 := 0) rfl rfl, fun U hU hW => ⟨⟨rfl, by rw [hU]; exact hP, va_K.moved hW.alike K⟩, hE.warm hW (fun q _ _ => by rw [hU])⟩⟩
  rcases vx_runV (rest := rest) S hM cw hp (g := F0 m pc ls (As.reverse ++ .ref (zxa_this k) :: rest)) rfl hn hsz rfl (lv_room hw) hdg hf T hT X with ⟨v, st₀, t, T', L, h9, X', hL, e1, e2, hq, st⟩ | ⟨q, st₀, t, T', L, E, ce, h9, X', hL, e1, e2, ⟨hE', hz, hk⟩, hcell, hv, hcl, st⟩
  · exact hq.elim
  subst hE'
  obtain rfl : L = [] := List.eq_nil_iff_forall_not_mem.mpr hL
  rw [h9] at hz hk
  rw [← e1] at hz hk hcell
  obtain ⟨t2, a1, b1⟩ := vx_catch (pc := pc) (ls := ls) (rest := rest) (H := T'.heap) (ce := ce) S.2.2.2.1 pre x suf hsplit hpass hcov h0 hlink (va_Nw.use rfl hcast) hcell hv hcl
    (kk q T'.heap (hP.kept (fun j x hx => hk x.1 (hP j x hx).lt)) (hPJ.kept (fun j x hx => hk x.1 (hPJ j x hx).lt)) ⟨hz, fun q g1 _ => hk q g1, fun _ h => by cases h⟩) T' rfl X'
  exact ⟨t2, st.trans a1, b1⟩
/-- what came back is put into the array of one long -/
theorem zl_store {v : Int32} (hx : p.tables.exec = Jvm.exec) (hb : c.code = cc) (hKJ : va_K k.1 vwCl [(cJ, .long)] s) (Dk : ZxD k) (hJ : ¬ ZxA k aJ) (hP : ZxP k u H) (hPJ : va_P k.1 vwCl (zJW aJ cJ f) H) (hS : va_S (ZlA k aJ) H0 H locs) (d7 : decode cc 7 = .ok (.i2l, 1)) (d8 : decode cc 8 = .ok (.lastore, 1))
    (kk : ∀ (H1 : Heap) (locs1 : List Loc), ZxP k u H1 → va_P k.1 vwCl (zJW aJ cJ (zJ f v)) H1 → va_S (ZlA k aJ) H0 H1 locs1 → W p l e R s m args below meth c H1 locs1 cells slots Q (F0 m 9 ls rest)) :
    W p l e R s m args below meth c H locs cells slots Q (F0 m 7 ls (.int v :: .int 0 :: .ref aJ :: rest)) := by
  have hD : va_D (ZlA k aJ) (ZxW k u ++ zJW aJ cJ f) := by
    refine z_Dof ?_ ?_
    · show (ZxL k ++ [aJ]).Nodup
      refine List.nodup_append.mpr ⟨Dk, List.nodup_cons.mpr ⟨List.not_mem_nil, List.nodup_nil⟩, fun a ha b hb e => ?_⟩
      rw [List.mem_singleton.mp hb] at e
      exact hJ (e ▸ ha)
    · intro a ha
      rcases List.mem_append.mp (show a ∈ ZxL k ++ [aJ] from ha) with h | h
      · exact Or.inl h
      · exact Or.inr (List.mem_singleton.mp h)
  refine lv_i2l hx hb d7 rfl ?_
  refine va_last (D := k.1) (ws := ZxW k u ++ zJW aJ cJ f) (A := ZlA k aJ) (f := f) hx hb hKJ (va_P.app hP hPJ) hD hS 3 0 rfl rfl (vp_in_nI (by decide) (by decide)) d8 (fun H1 locs1 hP1 _ hS1 => ?_)
  exact kk H1 locs1 (hP1.sub [0, 1, 2] rfl) (hP1.sub [3] rfl) hS1
end
