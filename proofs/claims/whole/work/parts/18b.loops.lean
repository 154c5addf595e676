def zsum (w : Nat → Int32) : Nat → Int32
  | 0 => 0
  | n + 1 => 31 * zsum w n + w n

def Zxsteps : Nat → Zxs → Zxs
  | 0, u => u
  | n + 1, u => if zxg_state u = 0 then Zxsteps n (zx_step u) else u
def zxR : List Cond := [.methodLink RX0 69 yX0_step, .instanceMethod yX0_step, .selects RX0 yX0_step yX0_step]
theorem zxR_in : ∀ w ∈ zxR, w ∈ lw_tbl := List.forall_mem_cons.mpr ⟨zT1 (i := 188) rfl, List.forall_mem_cons.mpr ⟨zT1 (i := 190) rfl, List.forall_mem_cons.mpr ⟨zT0 (i := 1) rfl, fun _ h => absurd h List.not_mem_nil⟩⟩⟩
section
variable {p : Program} {l : Launch} {e : Env} {R : Room} {s : State} {m : MethodId} {args : Array Value} {below : List Frame} {meth : Method} {c : Code} {Q : State → Prop} {cc : ByteArray} {nL : Nat} {k : Zxk} {H0 : Heap}
theorem zx_cwstep (C : ZxC p s m args c cc nL k) (hz : ∀ w ∈ zxR, w.before args s = true) : CallW (zrm 6) s args RX0 RX0 69 yX0_step cX0_step 2 none (.code yX0_step cX0_step 2 none :: wsX0_step) (zrm 5) 0 0 0 :=
  ⟨callB_of 0 C.1.2.2.2.2 (fun w h => by
    rcases List.mem_cons.mp h with rfl | h
    · exact wsX0_step_good _ List.mem_cons_self
    · exact wsX0_step_good _ h) rfl rfl rfl (C.1.2.2.2.2 _ wsX0_step_init) (hz _ (List.mem_of_getElem? (i := 0) rfl)) (by decide +kernel) ⟨by decide, by decide⟩, hz _ (List.mem_of_getElem? (i := 1) rfl), hz _ (List.mem_of_getElem? (i := 2) rfl)⟩
theorem zxE_inW {u : Zxs} {ex : List Cond} {y : MethodName} {maxL d : Nat} {ret : Option FieldType} {av : List Value} {v : Option Value} {u' : Zxs} (hy : plainName y.cls = true) (hyc : y.cls = RX0) (hm : (lg_sl av).length ≤ maxL) (Dk : ZxD k)
    (body : ∀ (p : Program) (e : Env) (s : State) (m : MethodId) (below : List Frame) (meth : Method) (c : Code) (ls : Array Slot), ZxC p s m av.toArray c cc maxL k → (∀ w ∈ ex, w.before av.toArray s = true) → meth.sig.returnType = ret → meth.locks = false → ZxP k u s.heap → lv_has ls maxL (lv_args 0 av) →
      W p l e (zrm d) s m av.toArray below meth c s.heap [] 0 0 (MQ below (ZxQ k v u') av.toArray s 0 0 (ZxA k)) (F0 m 0 ls [])) :
    Met l y (.code y cc maxL ret :: (ex ++ wsX0_step)) (zrm d) (ZxB k av u) (ZxQ k v u') 0 0 (ZxA k) := by
  refine Met.ofW (cc := cc) (maxL := maxL) (ret := ret) hy rfl ?_
  intro p e s m args below meth c s₁ B hml hv
  obtain ⟨rfl, hP, hK⟩ := hv
  have hts := atoms_spec (ws := Cond.code y cc maxL ret :: (ex ++ wsX0_step)) B.pre
  have hown : s.vm.findClass RX0 = some m.cls := by rw [← hyc]; exact findClass_of_methodNamed B.named
  rw [lg_entry_eq]
  exact body p e s m below meth c _ ⟨⟨B.exec, B.bytes, hml, hown, fun w h => hts w (List.mem_cons_of_mem _ (List.mem_append_right _ h))⟩, hK, Dk⟩ (fun w h => hts w (List.mem_cons_of_mem _ (List.mem_append_left _ h))) B.returns B.notSynchronized hP (lv_entry av hm)
set_option maxHeartbeats 4000000 in
set_option maxRecDepth 100000 in
theorem zx_runloop0 (C : ZxC p s m args c cX0_run 4 k) (cw : CallW R s args RX0 RX0 69 yX0_step cX0_step 2 none (.code yX0_step cX0_step 2 none :: wsX0_step) (zrm 5) 0 0 0) {N : Nat} (hN : N < 2 ^ 31) (x2 : Int32) : ∀ (r i : Nat) (u : Zxs) (H : Heap) (locs : List Loc) (ls : Array Slot), i + r = N → ZxP k u H → va_S (ZxA k) H0 H locs →
    lv_has ls 4 [(0, .ref (zxa_this k)), (1, .int (nI N)), (2, .int x2), (3, .int (nI i))] →
    (∀ (u1 : Zxs) (H1 : Heap) (locs1 : List Loc) (ls1 : Array Slot), u1 = Zxsteps r u → ZxP k u1 H1 → va_S (ZxA k) H0 H1 locs1 → lv_has ls1 4 [(0, .ref (zxa_this k)), (1, .int (nI N)), (2, .int x2)] → W p l e R s m args below meth c H1 locs1 0 0 Q (F0 m 67 ls1 [])) →
    W p l e R s m args below meth c H locs 0 0 Q (F0 m 45 ls []) := by
  have hx := C.1.1
  have hb := C.1.2.1
  intro r
  induction r with
  | zero =>
    intro i u H locs ls hi hP hS hl kk
    refine lv_iload_n hx hb dX0_run_45 rfl (lv_at hl 3 rfl) ?_
    refine lv_iload_n hx hb dX0_run_46 rfl (lv_at hl 1 rfl) ?_
    refine lv_icmp_ge (tgt := 67) hx hb dX0_run_47 (by decide) (fun _ => ?_) (fun q => absurd (nI_le (by omega) (by omega)) q)
    exact kk u H locs ls rfl hP hS (lv_sub hl [0, 1, 2] rfl)
  | succ r ih =>
    intro i u H locs ls hi hP hS hl kk
    refine lv_iload_n hx hb dX0_run_45 rfl (lv_at hl 3 rfl) ?_
    refine lv_iload_n hx hb dX0_run_46 rfl (lv_at hl 1 rfl) ?_
    refine lv_icmp_ge (tgt := 67) hx hb dX0_run_47 (by decide) (fun q => absurd q (nI_ge (by omega) (by omega))) (fun _ => ?_)
    refine lv_aload_n hx hb dX0_run_50 rfl (lv_at hl 0 rfl) ?_
    refine zxG_state C hP dX0_run_51 ?_
    refine lv_if_ne (tgt := 67) hx hb dX0_run_54 (by decide) (fun q => ?_) (fun q => ?_)
    · exact kk u H locs ls (if_neg q).symm hP hS (lv_sub hl [0, 1, 2] rfl)
    refine lv_aload_n hx hb dX0_run_57 rfl (lv_at hl 0 rfl) ?_
    refine zx_callF (As := []) (rest := []) C.1 C.2.1 (zxM_step l k C.2.2 u) cw hP (fun _ h => h) hS hl.1 (Nat.le_of_ble_eq_true rfl) rfl dX0_run_58 ⟨Nat.zero_le _, Nat.zero_le _⟩ (fun H locs hP _ _ hS => ?_)
    refine lv_iinc (v := nI (i + 1)) (lv' := [(3, .int (nI (i + 1))), (0, .ref (zxa_this k)), (1, .int (nI N)), (2, .int x2)]) hx hb dX0_run_61 hl (k := 3) rfl (nI_1 i) (by decide) rfl (fun ls hl => ?_)
    refine lv_goto (tgt := 45) hx hb dX0_run_64 (by decide) ?_
    exact ih (i + 1) (zx_step u) H locs ls (by omega) hP hS (lv_sub hl [1, 2, 3, 0] rfl) (fun u1 H1 locs1 ls1 h1 => kk u1 H1 locs1 ls1 (h1.trans (if_pos q).symm))
theorem zx_runloop {u : Zxs} {H : Heap} {locs : List Loc} {ls : Array Slot} {n x2 : Int32} (C : ZxC p s m args c cX0_run 4 k) (cw : CallW R s args RX0 RX0 69 yX0_step cX0_step 2 none (.code yX0_step cX0_step 2 none :: wsX0_step) (zrm 5) 0 0 0) (h1 : ¬ n < 0) (hP : ZxP k u H) (hS : va_S (ZxA k) H0 H locs)
    (hl : lv_has ls 4 [(0, .ref (zxa_this k)), (1, .int n), (2, .int x2), (3, .int 0)])
    (kk : ∀ (u1 : Zxs) (H1 : Heap) (locs1 : List Loc) (ls1 : Array Slot), u1 = Zxsteps n.toNatClampNeg u → ZxP k u1 H1 → va_S (ZxA k) H0 H1 locs1 → lv_has ls1 4 [(0, .ref (zxa_this k)), (1, .int n), (2, .int x2)] → W p l e R s m args below meth c H1 locs1 0 0 Q (F0 m 67 ls1 [])) :
    W p l e R s m args below meth c H locs 0 0 Q (F0 m 45 ls []) := by
  obtain ⟨N, hN, rfl⟩ := nI_of h1
  rw [nI_clamp hN] at kk
  exact zx_runloop0 C cw hN x2 N 0 u H locs ls (by omega) hP hS hl kk
set_option maxHeartbeats 4000000 in
set_option maxRecDepth 100000 in
theorem zx_sumloop {u : Zxs} {H : Heap} {locs : List Loc} (C : ZxC p s m args c cX0_sum 3 k) (hP : ZxP k u H) : ∀ (r i : Nat) (ls : Array Slot), i + r = 256 → lv_has ls 3 [(0, .ref (zxa_this k)), (1, .int (zsum (zxg_words u) i)), (2, .int (nI i))] →
    (∀ ls1 : Array Slot, lv_has ls1 3 [(0, .ref (zxa_this k)), (1, .int (zsum (zxg_words u) 256))] → W p l e R s m args below meth c H locs 0 0 Q (F0 m 29 ls1 [])) →
    W p l e R s m args below meth c H locs 0 0 Q (F0 m 4 ls []) := by
  have hx := C.1.1
  have hb := C.1.2.1
  intro r
  induction r with
  | zero =>
    intro i ls hi hl kk
    obtain rfl : i = 256 := by omega
    refine lv_iload_n hx hb dX0_sum_4 rfl (lv_at hl 2 rfl) ?_
    refine lv_sipush (v := 256) hx hb dX0_sum_5 (by decide) ?_
    refine lv_icmp_ge (tgt := 29) hx hb dX0_sum_8 (by decide) (fun _ => ?_) (fun q => absurd (nI_le (a := 256) (b := 256) (by omega) (by decide)) q)
    exact kk ls (lv_sub hl [0, 1] rfl)
  | succ r ih =>
    intro i ls hi hl kk
    refine lv_iload_n hx hb dX0_sum_4 rfl (lv_at hl 2 rfl) ?_
    refine lv_sipush (v := 256) hx hb dX0_sum_5 (by decide) ?_
    refine lv_icmp_ge (tgt := 29) hx hb dX0_sum_8 (by decide) (fun q => absurd q (nI_ge (a := i) (b := 256) (by omega) (by decide))) (fun _ => ?_)
    refine lv_bipush (v := 31) hx hb dX0_sum_11 (by decide) ?_
    refine lv_iload_n hx hb dX0_sum_13 rfl (lv_at hl 1 rfl) ?_
    refine lv_imul hx hb dX0_sum_14 ?_
    refine lv_aload_n hx hb dX0_sum_15 rfl (lv_at hl 0 rfl) ?_
    refine zxG_words C hP dX0_sum_16 ?_
    refine lv_iload_n hx hb dX0_sum_19 rfl (lv_at hl 2 rfl) ?_
    refine zxL_words C hP (vp_in_nI (by omega) (by decide)) dX0_sum_20 ?_
    refine lv_iadd hx hb dX0_sum_21 ?_
    rw [nI_clamp (n := i) (by omega)]
    refine lv_istore_n (lv' := [(1, .int (zsum (zxg_words u) (i + 1))), (0, .ref (zxa_this k)), (2, .int (nI i))]) hx hb dX0_sum_22 rfl hl (by decide) rfl (fun ls hl => ?_)
    refine lv_iinc (v := nI (i + 1)) (lv' := [(2, .int (nI (i + 1))), (1, .int (zsum (zxg_words u) (i + 1))), (0, .ref (zxa_this k))]) hx hb dX0_sum_23 hl (k := 2) rfl (nI_1 i) (by decide) rfl (fun ls hl => ?_)
    refine lv_goto (tgt := 4) hx hb dX0_sum_26 (by decide) ?_
    exact ih (i + 1) ls (by omega) (lv_sub hl [2, 1, 0] rfl) kk
end

def Ztsteps : Nat → Zts → Zts
  | 0, u => u
  | n + 1, u => if ztg_state u = 0 then Ztsteps n (zt_step u) else u
def ztR : List Cond := [.methodLink RX1 121 yX1_step, .instanceMethod yX1_step, .selects RX1 yX1_step yX1_step]
theorem ztR_in : ∀ w ∈ ztR, w ∈ lw_tbl := List.forall_mem_cons.mpr ⟨zT2 (i := 151) rfl, List.forall_mem_cons.mpr ⟨zT2 (i := 153) rfl, List.forall_mem_cons.mpr ⟨zT0 (i := 27) rfl, fun _ h => absurd h List.not_mem_nil⟩⟩⟩
section
variable {p : Program} {l : Launch} {e : Env} {R : Room} {s : State} {m : MethodId} {args : Array Value} {below : List Frame} {meth : Method} {c : Code} {Q : State → Prop} {cc : ByteArray} {nL : Nat} {k : Ztk} {H0 : Heap}
theorem zt_cwstep (C : ZtC p s m args c cc nL k) (hz : ∀ w ∈ ztR, w.before args s = true) : CallW (zrm 6) s args RX1 RX1 121 yX1_step cX1_step 6 none (.code yX1_step cX1_step 6 none :: zwT) (zrm 5) 0 0 0 :=
  ⟨callB_of 0 C.1.2.2.2.2 (fun w h => by
    rcases List.mem_cons.mp h with rfl | h
    · exact zwT_good _ (List.mem_cons_of_mem _ List.mem_cons_self)
    · exact zwT_good _ h) rfl rfl rfl (C.1.2.2.2.2 _ zwT_init) (hz _ (List.mem_of_getElem? (i := 0) rfl)) (by decide +kernel) ⟨by decide, by decide⟩, hz _ (List.mem_of_getElem? (i := 1) rfl), hz _ (List.mem_of_getElem? (i := 2) rfl)⟩
theorem ztE_inW {u : Zts} {ex : List Cond} {y : MethodName} {maxL d : Nat} {ret : Option FieldType} {av : List Value} {v : Option Value} {u' : Zts} (hy : plainName y.cls = true) (hyc : y.cls = RX1) (hm : (lg_sl av).length ≤ maxL) (Dk : ZtD k)
    (body : ∀ (p : Program) (e : Env) (s : State) (m : MethodId) (below : List Frame) (meth : Method) (c : Code) (ls : Array Slot), ZtC p s m av.toArray c cc maxL k → (∀ w ∈ ex, w.before av.toArray s = true) → meth.sig.returnType = ret → meth.locks = false → ZtP k u s.heap → lv_has ls maxL (lv_args 0 av) →
      W p l e (zrm d) s m av.toArray below meth c s.heap [] 0 0 (MQ below (ZtQ k v u') av.toArray s 0 0 (ZtA k)) (F0 m 0 ls [])) :
    Met l y (.code y cc maxL ret :: (ex ++ zwT)) (zrm d) (ZtB k av u) (ZtQ k v u') 0 0 (ZtA k) := by
  refine Met.ofW (cc := cc) (maxL := maxL) (ret := ret) hy rfl ?_
  intro p e s m args below meth c s₁ B hml hv
  obtain ⟨rfl, hP, hK⟩ := hv
  have hts := atoms_spec (ws := Cond.code y cc maxL ret :: (ex ++ zwT)) B.pre
  have hown : s.vm.findClass RX1 = some m.cls := by rw [← hyc]; exact findClass_of_methodNamed B.named
  rw [lg_entry_eq]
  exact body p e s m below meth c _ ⟨⟨B.exec, B.bytes, hml, hown, fun w h => hts w (List.mem_cons_of_mem _ (List.mem_append_right _ h))⟩, hK, Dk⟩ (fun w h => hts w (List.mem_cons_of_mem _ (List.mem_append_left _ h))) B.returns B.notSynchronized hP (lv_entry av hm)
set_option maxHeartbeats 4000000 in
set_option maxRecDepth 100000 in
theorem zt_runloop0 (C : ZtC p s m args c cX1_run 4 k) (cw : CallW R s args RX1 RX1 121 yX1_step cX1_step 6 none (.code yX1_step cX1_step 6 none :: zwT) (zrm 5) 0 0 0) {N : Nat} (hN : N < 2 ^ 31) (x2 : Int32) : ∀ (r i : Nat) (u : Zts) (H : Heap) (locs : List Loc) (ls : Array Slot), i + r = N → ZtP k u H → va_S (ZtA k) H0 H locs →
    lv_has ls 4 [(0, .ref (zta_this k)), (1, .int (nI N)), (2, .int x2), (3, .int (nI i))] →
    (∀ (u1 : Zts) (H1 : Heap) (locs1 : List Loc) (ls1 : Array Slot), u1 = Ztsteps r u → ZtP k u1 H1 → va_S (ZtA k) H0 H1 locs1 → lv_has ls1 4 [(0, .ref (zta_this k)), (1, .int (nI N)), (2, .int x2)] → W p l e R s m args below meth c H1 locs1 0 0 Q (F0 m 69 ls1 [])) →
    W p l e R s m args below meth c H locs 0 0 Q (F0 m 47 ls []) := by
  have hx := C.1.1
  have hb := C.1.2.1
  intro r
  induction r with
  | zero =>
    intro i u H locs ls hi hP hS hl kk
    refine lv_iload_n hx hb dX1_run_47 rfl (lv_at hl 3 rfl) ?_
    refine lv_iload_n hx hb dX1_run_48 rfl (lv_at hl 1 rfl) ?_
    refine lv_icmp_ge (tgt := 69) hx hb dX1_run_49 (by decide) (fun _ => ?_) (fun q => absurd (nI_le (by omega) (by omega)) q)
    exact kk u H locs ls rfl hP hS (lv_sub hl [0, 1, 2] rfl)
  | succ r ih =>
    intro i u H locs ls hi hP hS hl kk
    refine lv_iload_n hx hb dX1_run_47 rfl (lv_at hl 3 rfl) ?_
    refine lv_iload_n hx hb dX1_run_48 rfl (lv_at hl 1 rfl) ?_
    refine lv_icmp_ge (tgt := 69) hx hb dX1_run_49 (by decide) (fun q => absurd q (nI_ge (by omega) (by omega))) (fun _ => ?_)
    refine lv_aload_n hx hb dX1_run_52 rfl (lv_at hl 0 rfl) ?_
    refine ztG_state C hP dX1_run_53 ?_
    refine lv_if_ne (tgt := 69) hx hb dX1_run_56 (by decide) (fun q => ?_) (fun q => ?_)
    · exact kk u H locs ls (if_neg q).symm hP hS (lv_sub hl [0, 1, 2] rfl)
    refine lv_aload_n hx hb dX1_run_59 rfl (lv_at hl 0 rfl) ?_
    refine zt_callF (As := []) (rest := []) C.1 C.2.1 (ztM_step l k C.2.2 u) cw hP (fun _ h => h) hS hl.1 (Nat.le_of_ble_eq_true rfl) rfl dX1_run_60 ⟨Nat.zero_le _, Nat.zero_le _⟩ (fun H locs hP _ _ hS => ?_)
    refine lv_iinc (v := nI (i + 1)) (lv' := [(3, .int (nI (i + 1))), (0, .ref (zta_this k)), (1, .int (nI N)), (2, .int x2)]) hx hb dX1_run_63 hl (k := 3) rfl (nI_1 i) (by decide) rfl (fun ls hl => ?_)
    refine lv_goto (tgt := 47) hx hb dX1_run_66 (by decide) ?_
    exact ih (i + 1) (zt_step u) H locs ls (by omega) hP hS (lv_sub hl [1, 2, 3, 0] rfl) (fun u1 H1 locs1 ls1 h1 => kk u1 H1 locs1 ls1 (h1.trans (if_pos q).symm))
theorem zt_runloop {u : Zts} {H : Heap} {locs : List Loc} {ls : Array Slot} {n x2 : Int32} (C : ZtC p s m args c cX1_run 4 k) (cw : CallW R s args RX1 RX1 121 yX1_step cX1_step 6 none (.code yX1_step cX1_step 6 none :: zwT) (zrm 5) 0 0 0) (h1 : ¬ n < 0) (hP : ZtP k u H) (hS : va_S (ZtA k) H0 H locs)
    (hl : lv_has ls 4 [(0, .ref (zta_this k)), (1, .int n), (2, .int x2), (3, .int 0)])
    (kk : ∀ (u1 : Zts) (H1 : Heap) (locs1 : List Loc) (ls1 : Array Slot), u1 = Ztsteps n.toNatClampNeg u → ZtP k u1 H1 → va_S (ZtA k) H0 H1 locs1 → lv_has ls1 4 [(0, .ref (zta_this k)), (1, .int n), (2, .int x2)] → W p l e R s m args below meth c H1 locs1 0 0 Q (F0 m 69 ls1 [])) :
    W p l e R s m args below meth c H locs 0 0 Q (F0 m 47 ls []) := by
  obtain ⟨N, hN, rfl⟩ := nI_of h1
  rw [nI_clamp hN] at kk
  exact zt_runloop0 C cw hN x2 N 0 u H locs ls (by omega) hP hS hl kk
set_option maxHeartbeats 4000000 in
set_option maxRecDepth 100000 in
theorem zt_sumloop {u : Zts} {H : Heap} {locs : List Loc} (C : ZtC p s m args c cX1_sum 3 k) (hP : ZtP k u H) : ∀ (r i : Nat) (ls : Array Slot), i + r = 256 → lv_has ls 3 [(0, .ref (zta_this k)), (1, .int (zsum (ztg_words u) i)), (2, .int (nI i))] →
    (∀ ls1 : Array Slot, lv_has ls1 3 [(0, .ref (zta_this k)), (1, .int (zsum (ztg_words u) 256))] → W p l e R s m args below meth c H locs 0 0 Q (F0 m 34 ls1 [])) →
    W p l e R s m args below meth c H locs 0 0 Q (F0 m 9 ls []) := by
  have hx := C.1.1
  have hb := C.1.2.1
  intro r
  induction r with
  | zero =>
    intro i ls hi hl kk
    obtain rfl : i = 256 := by omega
    refine lv_iload_n hx hb dX1_sum_9 rfl (lv_at hl 2 rfl) ?_
    refine lv_sipush (v := 256) hx hb dX1_sum_10 (by decide) ?_
    refine lv_icmp_ge (tgt := 34) hx hb dX1_sum_13 (by decide) (fun _ => ?_) (fun q => absurd (nI_le (a := 256) (b := 256) (by omega) (by decide)) q)
    exact kk ls (lv_sub hl [0, 1] rfl)
  | succ r ih =>
    intro i ls hi hl kk
    refine lv_iload_n hx hb dX1_sum_9 rfl (lv_at hl 2 rfl) ?_
    refine lv_sipush (v := 256) hx hb dX1_sum_10 (by decide) ?_
    refine lv_icmp_ge (tgt := 34) hx hb dX1_sum_13 (by decide) (fun q => absurd q (nI_ge (a := i) (b := 256) (by omega) (by decide))) (fun _ => ?_)
    refine lv_bipush (v := 31) hx hb dX1_sum_16 (by decide) ?_
    refine lv_iload_n hx hb dX1_sum_18 rfl (lv_at hl 1 rfl) ?_
    refine lv_imul hx hb dX1_sum_19 ?_
    refine lv_aload_n hx hb dX1_sum_20 rfl (lv_at hl 0 rfl) ?_
    refine ztG_words C hP dX1_sum_21 ?_
    refine lv_iload_n hx hb dX1_sum_24 rfl (lv_at hl 2 rfl) ?_
    refine ztL_words C hP (vp_in_nI (by omega) (by decide)) dX1_sum_25 ?_
    refine lv_iadd hx hb dX1_sum_26 ?_
    rw [nI_clamp (n := i) (by omega)]
    refine lv_istore_n (lv' := [(1, .int (zsum (ztg_words u) (i + 1))), (0, .ref (zta_this k)), (2, .int (nI i))]) hx hb dX1_sum_27 rfl hl (by decide) rfl (fun ls hl => ?_)
    refine lv_iinc (v := nI (i + 1)) (lv' := [(2, .int (nI (i + 1))), (1, .int (zsum (ztg_words u) (i + 1))), (0, .ref (zta_this k))]) hx hb dX1_sum_28 hl (k := 2) rfl (nI_1 i) (by decide) rfl (fun ls hl => ?_)
    refine lv_goto (tgt := 9) hx hb dX1_sum_31 (by decide) ?_
    exact ih (i + 1) ls (by omega) (lv_sub hl [2, 1, 0] rfl) kk
end
