def zx_jump (u : Zxs) (a1 : Int32) : Zxs :=
  if (zx_areBytes (zxg_pc u) 3) = 0 then (
    let u3 := zx_fault u
    u3)
  else (
    let u2 := zx_finish u ((zxg_pc u) + (zx_signedPair u ((zxg_pc u) + 1))) a1
    u2)
set_option maxHeartbeats 4000000 in
set_option maxRecDepth 100000 in
theorem zxM_jump (l : Launch) (k : Zxk) (Dk : ZxD k) (u : Zxs) (a1 : Int32) : Met l yX0_jump (.code yX0_jump cX0_jump 2 none :: wsX0_step) (zrm 2) (ZxB k [.ref (zxa_this k), .int a1] u) (ZxQ k none (zx_jump u a1)) 0 0 (ZxA k) := by
  refine zx_enter (by decide) rfl (Nat.le_of_ble_eq_true rfl) Dk ?_
  intro p e s m below meth c ls C hr hlk hP hl
  have hx := C.1.1
  have hb := C.1.2.1
  have hl : lv_has ls 2 [(0, .ref (zxa_this k)), (1, .int a1)] := hl
  have hS : va_S (ZxA k) s.heap s.heap [] := va_S.rf
  refine lv_aload_n hx hb dX0_jump_0 rfl (lv_at hl 0 rfl) ?_
  refine zxG_pc C hP dX0_jump_1 ?_
  refine lv_iconst (v := 3) hx hb dX0_jump_4 (by decide) ?_
  refine zxK_areBytes C hl.1 (by decide) (Nat.le_of_ble_eq_true rfl) dX0_jump_5 ?_
  refine lv_if_ne (tgt := 16) hx hb dX0_jump_8 (by decide) (fun c1 => ?_) (fun c1 => ?_)
  · refine lv_aload_n hx hb dX0_jump_16 rfl (lv_at hl 0 rfl) ?_
    refine lv_aload_n hx hb dX0_jump_17 rfl (lv_at hl 0 rfl) ?_
    refine zxG_pc C hP dX0_jump_18 ?_
    refine lv_aload_n hx hb dX0_jump_21 rfl (lv_at hl 0 rfl) ?_
    refine lv_aload_n hx hb dX0_jump_22 rfl (lv_at hl 0 rfl) ?_
    refine zxG_pc C hP dX0_jump_23 ?_
    refine lv_iconst (v := 1) hx hb dX0_jump_26 (by decide) ?_
    refine lv_iadd hx hb dX0_jump_27 ?_
    refine zxK_signedPair C hP hl.1 (by decide) (Nat.le_of_ble_eq_true rfl) (by first | assumption | exact zx_in (by assumption) | exact zx_b10 (by assumption) | exact zx_b21 (by assumption) | exact zx_b31 (by assumption) | exact zx_b32 (by assumption) | exact zx_b42 (by assumption) | exact zx_b43 (by assumption) | exact zx_b33 (by assumption) | exact zx_b40 (by assumption) | exact zx_b41 (by assumption)) (by first | assumption | exact zx_in (by assumption) | exact zx_b10 (by assumption) | exact zx_b21 (by assumption) | exact zx_b31 (by assumption) | exact zx_b32 (by assumption) | exact zx_b42 (by assumption) | exact zx_b43 (by assumption) | exact zx_b33 (by assumption) | exact zx_b40 (by assumption) | exact zx_b41 (by assumption)) dX0_jump_28 ?_
    refine lv_iadd hx hb dX0_jump_31 ?_
    refine lv_iload_n hx hb dX0_jump_32 rfl (lv_at hl 1 rfl) ?_
    refine zxK_finish C hP hS hl.1 (by decide) (Nat.le_of_ble_eq_true rfl) dX0_jump_33 (fun u2 H locs hu2 hP hS => ?_)
    exact zx_vret C hr hlk hP hS (by subst hu2; exact (if_neg c1).trans (rfl)) dX0_jump_36
  · refine lv_aload_n hx hb dX0_jump_11 rfl (lv_at hl 0 rfl) ?_
    refine zxK_fault C hP hS hl.1 (by decide) (Nat.le_of_ble_eq_true rfl) dX0_jump_12 (fun u3 H locs hu3 hP hS => ?_)
    exact zx_vret C hr hlk hP hS (by subst hu3; exact (if_pos c1).trans (rfl)) dX0_jump_15
section
variable {p : Program} {l : Launch} {e : Env} {R : Room} {s : State} {m : MethodId} {args : Array Value} {below : List Frame} {meth : Method} {c : Code} {H : Heap} {locs : List Loc} {Q : State → Prop} {cc : ByteArray} {pc nL : Nat} {ls : Array Slot} {rest : List Value} {k : Zxk} {u : Zxs} {H0 : Heap}
set_option maxHeartbeats 4000000 in
set_option maxRecDepth 100000 in
theorem zxK_jump {a1 : Int32} (C : ZxC p s m args c cc nL k) (hP : ZxP k u H) (hS : va_S (ZxA k) H0 H locs) (hsz : ls.size = nL) (hR : 2 + 1 ≤ R.frames ∧ 8 + (2 + 11) + 40 * 2 ≤ R.locals) (hw : (rest.map fun v => v.category).sum ≤ 8) (hdg : decode cc pc = .ok (.invokevirtual 117, 3)) (kk : ∀ (u1 : Zxs) (H1 : Heap) (locs1 : List Loc), u1 = zx_jump u a1 → ZxP k u1 H1 → va_S (ZxA k) H0 H1 locs1 → W p l e R s m args below meth c H1 locs1 0 0 Q (F0 m (pc + 3) ls (rest))) : W p l e R s m args below meth c H locs 0 0 Q (F0 m pc ls (.int a1 :: .ref (zxa_this k) :: rest)) :=
  zx_callV (y := yX0_jump) (n := 1) (As := [.int a1]) C (zxM_jump l k C.2.2 u a1 ) wsX0_step_c_jump wsX0_step_l_jump wsX0_step_i_jump wsX0_step_v_jump rfl (by decide +kernel) hP hS hsz hR hw rfl hdg (fun H1 locs1 hP1 hS1 => kk _ H1 locs1 rfl hP1 hS1)
end
def zx_branch (u : Zxs) (a1 a2 a3 : Int32) : Zxs :=
  if a1 = 0 then (
    let u2 := zxs_sp u a2
    let u3 := zxs_top u2 (zxg_words u2 a2.toNatClampNeg)
    if a1 = 0 then (
      let u5 := zx_finish u3 ((zxg_pc u3) + 3) a3
      u5)
    else (
      let u6 := zx_jump u3 (a3 + 3)
      u6))
  else (
    if (zx_areBytes (zxg_pc u) 3) = 0 then (
      let u13 := zx_fault u
      u13)
    else (
      let u8 := zxs_sp u a2
      let u9 := zxs_top u8 (zxg_words u8 a2.toNatClampNeg)
      if a1 = 0 then (
        let u11 := zx_finish u9 ((zxg_pc u9) + 3) a3
        u11)
      else (
        let u12 := zx_jump u9 (a3 + 3)
        u12)))
set_option maxHeartbeats 4000000 in
set_option maxRecDepth 100000 in
theorem zxM_branch (l : Launch) (k : Zxk) (Dk : ZxD k) (u : Zxs) (a1 a2 a3 : Int32) (h1 : vp_in a2 256) : Met l yX0_branch (.code yX0_branch cX0_branch 4 none :: wsX0_step) (zrm 3) (ZxB k [.ref (zxa_this k), .int a1, .int a2, .int a3] u) (ZxQ k none (zx_branch u a1 a2 a3)) 0 0 (ZxA k) := by
  refine zx_enter (by decide) rfl (Nat.le_of_ble_eq_true rfl) Dk ?_
  intro p e s m below meth c ls C hr hlk hP hl
  have hx := C.1.1
  have hb := C.1.2.1
  have hl : lv_has ls 4 [(0, .ref (zxa_this k)), (1, .int a1), (2, .int a2), (3, .int a3)] := hl
  have hS : va_S (ZxA k) s.heap s.heap [] := va_S.rf
  refine lv_iload_n hx hb dX0_branch_0 rfl (lv_at hl 1 rfl) ?_
  refine lv_if_eq (tgt := 20) hx hb dX0_branch_1 (by decide) (fun c1 => ?_) (fun c1 => ?_)
  · refine lv_aload_n hx hb dX0_branch_20 rfl (lv_at hl 0 rfl) ?_
    refine lv_iload_n hx hb dX0_branch_21 rfl (lv_at hl 2 rfl) ?_
    refine zxP_sp C hP hS dX0_branch_22 (fun u2 H locs hu2 hP hS => ?_)
    refine lv_aload_n hx hb dX0_branch_25 rfl (lv_at hl 0 rfl) ?_
    refine lv_aload_n hx hb dX0_branch_26 rfl (lv_at hl 0 rfl) ?_
    refine zxG_words C hP dX0_branch_27 ?_
    refine lv_iload_n hx hb dX0_branch_30 rfl (lv_at hl 2 rfl) ?_
    refine zxL_words C hP (by first | assumption | exact zx_in (by assumption) | exact zx_b10 (by assumption) | exact zx_b21 (by assumption) | exact zx_b31 (by assumption) | exact zx_b32 (by assumption) | exact zx_b42 (by assumption) | exact zx_b43 (by assumption) | exact zx_b33 (by assumption) | exact zx_b40 (by assumption) | exact zx_b41 (by assumption)) dX0_branch_31 ?_
    refine zxP_top C hP hS dX0_branch_32 (fun u3 H locs hu3 hP hS => ?_)
    refine lv_iload_n hx hb dX0_branch_35 rfl (lv_at hl 1 rfl) ?_
    refine lv_if_eq (tgt := 49) hx hb dX0_branch_36 (by decide) (fun c4 => ?_) (fun c4 => ?_)
    · refine lv_aload_n hx hb dX0_branch_49 rfl (lv_at hl 0 rfl) ?_
      refine lv_aload_n hx hb dX0_branch_50 rfl (lv_at hl 0 rfl) ?_
      refine zxG_pc C hP dX0_branch_51 ?_
      refine lv_iconst (v := 3) hx hb dX0_branch_54 (by decide) ?_
      refine lv_iadd hx hb dX0_branch_55 ?_
      refine lv_iload_n hx hb dX0_branch_56 rfl (lv_at hl 3 rfl) ?_
      refine zxK_finish C hP hS hl.1 (by decide) (Nat.le_of_ble_eq_true rfl) dX0_branch_57 (fun u5 H locs hu5 hP hS => ?_)
      exact zx_vret C hr hlk hP hS (by subst hu2 hu3 hu5; exact (if_pos c1).trans ((if_pos c4).trans (rfl))) dX0_branch_60
    · refine lv_aload_n hx hb dX0_branch_39 rfl (lv_at hl 0 rfl) ?_
      refine lv_iload_n hx hb dX0_branch_40 rfl (lv_at hl 3 rfl) ?_
      refine lv_iconst (v := 3) hx hb dX0_branch_41 (by decide) ?_
      refine lv_iadd hx hb dX0_branch_42 ?_
      refine zxK_jump C hP hS hl.1 (by decide) (Nat.le_of_ble_eq_true rfl) dX0_branch_43 (fun u6 H locs hu6 hP hS => ?_)
      refine lv_goto (tgt := 60) hx hb dX0_branch_46 (by decide) ?_
      exact zx_vret C hr hlk hP hS (by subst hu2 hu3 hu6; exact (if_pos c1).trans ((if_neg c4).trans (rfl))) dX0_branch_60
  · refine lv_aload_n hx hb dX0_branch_4 rfl (lv_at hl 0 rfl) ?_
    refine zxG_pc C hP dX0_branch_5 ?_
    refine lv_iconst (v := 3) hx hb dX0_branch_8 (by decide) ?_
    refine zxK_areBytes C hl.1 (by decide) (Nat.le_of_ble_eq_true rfl) dX0_branch_9 ?_
    refine lv_if_ne (tgt := 20) hx hb dX0_branch_12 (by decide) (fun c7 => ?_) (fun c7 => ?_)
    · refine lv_aload_n hx hb dX0_branch_20 rfl (lv_at hl 0 rfl) ?_
      refine lv_iload_n hx hb dX0_branch_21 rfl (lv_at hl 2 rfl) ?_
      refine zxP_sp C hP hS dX0_branch_22 (fun u8 H locs hu8 hP hS => ?_)
      refine lv_aload_n hx hb dX0_branch_25 rfl (lv_at hl 0 rfl) ?_
      refine lv_aload_n hx hb dX0_branch_26 rfl (lv_at hl 0 rfl) ?_
      refine zxG_words C hP dX0_branch_27 ?_
      refine lv_iload_n hx hb dX0_branch_30 rfl (lv_at hl 2 rfl) ?_
      refine zxL_words C hP (by first | assumption | exact zx_in (by assumption) | exact zx_b10 (by assumption) | exact zx_b21 (by assumption) | exact zx_b31 (by assumption) | exact zx_b32 (by assumption) | exact zx_b42 (by assumption) | exact zx_b43 (by assumption) | exact zx_b33 (by assumption) | exact zx_b40 (by assumption) | exact zx_b41 (by assumption)) dX0_branch_31 ?_
      refine zxP_top C hP hS dX0_branch_32 (fun u9 H locs hu9 hP hS => ?_)
      refine lv_iload_n hx hb dX0_branch_35 rfl (lv_at hl 1 rfl) ?_
      refine lv_if_eq (tgt := 49) hx hb dX0_branch_36 (by decide) (fun c10 => ?_) (fun c10 => ?_)
      · refine lv_aload_n hx hb dX0_branch_49 rfl (lv_at hl 0 rfl) ?_
        refine lv_aload_n hx hb dX0_branch_50 rfl (lv_at hl 0 rfl) ?_
        refine zxG_pc C hP dX0_branch_51 ?_
        refine lv_iconst (v := 3) hx hb dX0_branch_54 (by decide) ?_
        refine lv_iadd hx hb dX0_branch_55 ?_
        refine lv_iload_n hx hb dX0_branch_56 rfl (lv_at hl 3 rfl) ?_
        refine zxK_finish C hP hS hl.1 (by decide) (Nat.le_of_ble_eq_true rfl) dX0_branch_57 (fun u11 H locs hu11 hP hS => ?_)
        exact zx_vret C hr hlk hP hS (by subst hu8 hu9 hu11; exact (if_neg c1).trans ((if_neg c7).trans ((if_pos c10).trans (rfl)))) dX0_branch_60
      · refine lv_aload_n hx hb dX0_branch_39 rfl (lv_at hl 0 rfl) ?_
        refine lv_iload_n hx hb dX0_branch_40 rfl (lv_at hl 3 rfl) ?_
        refine lv_iconst (v := 3) hx hb dX0_branch_41 (by decide) ?_
        refine lv_iadd hx hb dX0_branch_42 ?_
        refine zxK_jump C hP hS hl.1 (by decide) (Nat.le_of_ble_eq_true rfl) dX0_branch_43 (fun u12 H locs hu12 hP hS => ?_)
        refine lv_goto (tgt := 60) hx hb dX0_branch_46 (by decide) ?_
        exact zx_vret C hr hlk hP hS (by subst hu8 hu9 hu12; exact (if_neg c1).trans ((if_neg c7).trans ((if_neg c10).trans (rfl)))) dX0_branch_60
    · refine lv_aload_n hx hb dX0_branch_15 rfl (lv_at hl 0 rfl) ?_
      refine zxK_fault C hP hS hl.1 (by decide) (Nat.le_of_ble_eq_true rfl) dX0_branch_16 (fun u13 H locs hu13 hP hS => ?_)
      exact zx_vret C hr hlk hP hS (by subst hu13; exact (if_neg c1).trans ((if_pos c7).trans (rfl))) dX0_branch_19
section
variable {p : Program} {l : Launch} {e : Env} {R : Room} {s : State} {m : MethodId} {args : Array Value} {below : List Frame} {meth : Method} {c : Code} {H : Heap} {locs : List Loc} {Q : State → Prop} {cc : ByteArray} {pc nL : Nat} {ls : Array Slot} {rest : List Value} {k : Zxk} {u : Zxs} {H0 : Heap}
set_option maxHeartbeats 4000000 in
set_option maxRecDepth 100000 in
theorem zxK_branch {a1 a2 a3 : Int32} (C : ZxC p s m args c cc nL k) (hP : ZxP k u H) (hS : va_S (ZxA k) H0 H locs) (hsz : ls.size = nL) (hR : 3 + 1 ≤ R.frames ∧ 8 + (4 + 11) + 40 * 3 ≤ R.locals) (hw : (rest.map fun v => v.category).sum ≤ 8) (h1 : vp_in a2 256) (hdg : decode cc pc = .ok (.invokevirtual 155, 3)) (kk : ∀ (u1 : Zxs) (H1 : Heap) (locs1 : List Loc), u1 = zx_branch u a1 a2 a3 → ZxP k u1 H1 → va_S (ZxA k) H0 H1 locs1 → W p l e R s m args below meth c H1 locs1 0 0 Q (F0 m (pc + 3) ls (rest))) : W p l e R s m args below meth c H locs 0 0 Q (F0 m pc ls (.int a3 :: .int a2 :: .int a1 :: .ref (zxa_this k) :: rest)) :=
  zx_callV (y := yX0_branch) (n := 3) (As := [.int a1, .int a2, .int a3]) C (zxM_branch l k C.2.2 u a1 a2 a3 h1) wsX0_step_c_branch wsX0_step_l_branch wsX0_step_i_branch wsX0_step_v_branch rfl (by decide +kernel) hP hS hsz hR hw rfl hdg (fun H1 locs1 hP1 hS1 => kk _ H1 locs1 rfl hP1 hS1)
end
def zx_jumpOnTop (u : Zxs) (a1 : Int32) : Zxs :=
  if (zx_isWord ((zxg_sp u) - 1)) = 0 then (
    let u3 := zx_fault u
    u3)
  else (
    let u2 := zx_branch u a1 ((zxg_sp u) - 1) 8
    u2)
set_option maxHeartbeats 4000000 in
set_option maxRecDepth 100000 in
theorem zxM_jumpOnTop (l : Launch) (k : Zxk) (Dk : ZxD k) (u : Zxs) (a1 : Int32) : Met l yX0_jumpOnTop (.code yX0_jumpOnTop cX0_jumpOnTop 3 none :: wsX0_step) (zrm 4) (ZxB k [.ref (zxa_this k), .int a1] u) (ZxQ k none (zx_jumpOnTop u a1)) 0 0 (ZxA k) := by
  refine zx_enter (by decide) rfl (Nat.le_of_ble_eq_true rfl) Dk ?_
  intro p e s m below meth c ls C hr hlk hP hl
  have hx := C.1.1
  have hb := C.1.2.1
  have hl : lv_has ls 3 [(0, .ref (zxa_this k)), (1, .int a1)] := hl
  have hS : va_S (ZxA k) s.heap s.heap [] := va_S.rf
  refine lv_aload_n hx hb dX0_jumpOnTop_0 rfl (lv_at hl 0 rfl) ?_
  refine zxG_sp C hP dX0_jumpOnTop_1 ?_
  refine lv_iconst (v := 1) hx hb dX0_jumpOnTop_4 (by decide) ?_
  refine lv_isub hx hb dX0_jumpOnTop_5 ?_
  refine lv_istore_n (lv' := [(2, .int ((zxg_sp u) - 1)), (0, .ref (zxa_this k)), (1, .int a1)]) hx hb dX0_jumpOnTop_6 rfl hl (by decide) rfl (fun ls hl => ?_)
  refine lv_iload_n hx hb dX0_jumpOnTop_7 rfl (lv_at hl 0 rfl) ?_
  refine zxK_isWord C hl.1 (by decide) (Nat.le_of_ble_eq_true rfl) dX0_jumpOnTop_8 ?_
  refine lv_if_ne (tgt := 19) hx hb dX0_jumpOnTop_11 (by decide) (fun c1 => ?_) (fun c1 => ?_)
  · refine lv_aload_n hx hb dX0_jumpOnTop_19 rfl (lv_at hl 1 rfl) ?_
    refine lv_iload_n hx hb dX0_jumpOnTop_20 rfl (lv_at hl 2 rfl) ?_
    refine lv_iload_n hx hb dX0_jumpOnTop_21 rfl (lv_at hl 0 rfl) ?_
    refine lv_bipush (v := 8) hx hb dX0_jumpOnTop_22 (by decide) ?_
    refine zxK_branch C hP hS hl.1 (by decide) (Nat.le_of_ble_eq_true rfl) (by first | assumption | exact zx_in (by assumption) | exact zx_b10 (by assumption) | exact zx_b21 (by assumption) | exact zx_b31 (by assumption) | exact zx_b32 (by assumption) | exact zx_b42 (by assumption) | exact zx_b43 (by assumption) | exact zx_b33 (by assumption) | exact zx_b40 (by assumption) | exact zx_b41 (by assumption)) dX0_jumpOnTop_24 (fun u2 H locs hu2 hP hS => ?_)
    exact zx_vret C hr hlk hP hS (by subst hu2; exact (if_neg c1).trans (rfl)) dX0_jumpOnTop_27
  · refine lv_aload_n hx hb dX0_jumpOnTop_14 rfl (lv_at hl 1 rfl) ?_
    refine zxK_fault C hP hS hl.1 (by decide) (Nat.le_of_ble_eq_true rfl) dX0_jumpOnTop_15 (fun u3 H locs hu3 hP hS => ?_)
    exact zx_vret C hr hlk hP hS (by subst hu3; exact (if_pos c1).trans (rfl)) dX0_jumpOnTop_18
section
variable {p : Program} {l : Launch} {e : Env} {R : Room} {s : State} {m : MethodId} {args : Array Value} {below : List Frame} {meth : Method} {c : Code} {H : Heap} {locs : List Loc} {Q : State → Prop} {cc : ByteArray} {pc nL : Nat} {ls : Array Slot} {rest : List Value} {k : Zxk} {u : Zxs} {H0 : Heap}
set_option maxHeartbeats 4000000 in
set_option maxRecDepth 100000 in
theorem zxK_jumpOnTop {a1 : Int32} (C : ZxC p s m args c cc nL k) (hP : ZxP k u H) (hS : va_S (ZxA k) H0 H locs) (hsz : ls.size = nL) (hR : 4 + 1 ≤ R.frames ∧ 8 + (3 + 11) + 40 * 4 ≤ R.locals) (hw : (rest.map fun v => v.category).sum ≤ 8) (hdg : decode cc pc = .ok (.invokevirtual 120, 3)) (kk : ∀ (u1 : Zxs) (H1 : Heap) (locs1 : List Loc), u1 = zx_jumpOnTop u a1 → ZxP k u1 H1 → va_S (ZxA k) H0 H1 locs1 → W p l e R s m args below meth c H1 locs1 0 0 Q (F0 m (pc + 3) ls (rest))) : W p l e R s m args below meth c H locs 0 0 Q (F0 m pc ls (.int a1 :: .ref (zxa_this k) :: rest)) :=
  zx_callV (y := yX0_jumpOnTop) (n := 1) (As := [.int a1]) C (zxM_jumpOnTop l k C.2.2 u a1 ) wsX0_step_c_jumpOnTop wsX0_step_l_jumpOnTop wsX0_step_i_jumpOnTop wsX0_step_v_jumpOnTop rfl (by decide +kernel) hP hS hsz hR hw rfl hdg (fun H1 locs1 hP1 hS1 => kk _ H1 locs1 rfl hP1 hS1)
end
def zx_jumpOnLike (u : Zxs) : Zxs :=
  if (zx_isWord ((zxg_sp u) - 1)) = 0 then (
    let u2 := zx_fault u
    u2)
  else (
    if (zx_isWord ((zxg_sp u) - 2)) = 0 then (
      let u7 := zx_fault u
      u7)
    else (
      if (zxg_top u) = (zxg_words u ((zxg_sp u) - 1).toNatClampNeg) then (
        let u6 := zx_branch u 1 ((zxg_sp u) - 2) 10
        u6)
      else (
        let u5 := zx_branch u 0 ((zxg_sp u) - 2) 10
        u5)))
set_option maxHeartbeats 4000000 in
set_option maxRecDepth 100000 in
theorem zxM_jumpOnLike (l : Launch) (k : Zxk) (Dk : ZxD k) (u : Zxs) : Met l yX0_jumpOnLike (.code yX0_jumpOnLike cX0_jumpOnLike 3 none :: wsX0_step) (zrm 4) (ZxB k [.ref (zxa_this k)] u) (ZxQ k none (zx_jumpOnLike u )) 0 0 (ZxA k) := by
  refine zx_enter (by decide) rfl (Nat.le_of_ble_eq_true rfl) Dk ?_
  intro p e s m below meth c ls C hr hlk hP hl
  have hx := C.1.1
  have hb := C.1.2.1
  have hl : lv_has ls 3 [(0, .ref (zxa_this k))] := hl
  have hS : va_S (ZxA k) s.heap s.heap [] := va_S.rf
  refine lv_aload_n hx hb dX0_jumpOnLike_0 rfl (lv_at hl 0 rfl) ?_
  refine zxG_sp C hP dX0_jumpOnLike_1 ?_
  refine lv_iconst (v := 1) hx hb dX0_jumpOnLike_4 (by decide) ?_
  refine lv_isub hx hb dX0_jumpOnLike_5 ?_
  refine lv_istore_n (lv' := [(1, .int ((zxg_sp u) - 1)), (0, .ref (zxa_this k))]) hx hb dX0_jumpOnLike_6 rfl hl (by decide) rfl (fun ls hl => ?_)
  refine lv_aload_n hx hb dX0_jumpOnLike_7 rfl (lv_at hl 1 rfl) ?_
  refine zxG_sp C hP dX0_jumpOnLike_8 ?_
  refine lv_iconst (v := 2) hx hb dX0_jumpOnLike_11 (by decide) ?_
  refine lv_isub hx hb dX0_jumpOnLike_12 ?_
  refine lv_istore_n (lv' := [(2, .int ((zxg_sp u) - 2)), (1, .int ((zxg_sp u) - 1)), (0, .ref (zxa_this k))]) hx hb dX0_jumpOnLike_13 rfl hl (by decide) rfl (fun ls hl => ?_)
  refine lv_iload_n hx hb dX0_jumpOnLike_14 rfl (lv_at hl 1 rfl) ?_
  refine zxK_isWord C hl.1 (by decide) (Nat.le_of_ble_eq_true rfl) dX0_jumpOnLike_15 ?_
  refine lv_if_eq (tgt := 28) hx hb dX0_jumpOnLike_18 (by decide) (fun c1 => ?_) (fun c1 => ?_)
  · refine lv_aload_n hx hb dX0_jumpOnLike_28 rfl (lv_at hl 2 rfl) ?_
    refine zxK_fault C hP hS hl.1 (by decide) (Nat.le_of_ble_eq_true rfl) dX0_jumpOnLike_29 (fun u2 H locs hu2 hP hS => ?_)
    exact zx_vret C hr hlk hP hS (by subst hu2; exact (if_pos c1).trans (rfl)) dX0_jumpOnLike_32
  · refine lv_iload_n hx hb dX0_jumpOnLike_21 rfl (lv_at hl 0 rfl) ?_
    refine zxK_isWord C hl.1 (by decide) (Nat.le_of_ble_eq_true rfl) dX0_jumpOnLike_22 ?_
    refine lv_if_ne (tgt := 33) hx hb dX0_jumpOnLike_25 (by decide) (fun c3 => ?_) (fun c3 => ?_)
    · refine lv_aload_n hx hb dX0_jumpOnLike_33 rfl (lv_at hl 2 rfl) ?_
      refine lv_aload_n hx hb dX0_jumpOnLike_34 rfl (lv_at hl 2 rfl) ?_
      refine zxG_top C hP dX0_jumpOnLike_35 ?_
      refine lv_aload_n hx hb dX0_jumpOnLike_38 rfl (lv_at hl 2 rfl) ?_
      refine zxG_words C hP dX0_jumpOnLike_39 ?_
      refine lv_iload_n hx hb dX0_jumpOnLike_42 rfl (lv_at hl 1 rfl) ?_
      refine zxL_words C hP (by first | assumption | exact zx_in (by assumption) | exact zx_b10 (by assumption) | exact zx_b21 (by assumption) | exact zx_b31 (by assumption) | exact zx_b32 (by assumption) | exact zx_b42 (by assumption) | exact zx_b43 (by assumption) | exact zx_b33 (by assumption) | exact zx_b40 (by assumption) | exact zx_b41 (by assumption)) dX0_jumpOnLike_43 ?_
      refine lv_icmp_ne (tgt := 51) hx hb dX0_jumpOnLike_44 (by decide) (fun c4 => ?_) (fun c4 => ?_)
      · refine lv_iconst (v := 0) hx hb dX0_jumpOnLike_51 (by decide) ?_
        refine lv_iload_n hx hb dX0_jumpOnLike_52 rfl (lv_at hl 0 rfl) ?_
        refine lv_bipush (v := 10) hx hb dX0_jumpOnLike_53 (by decide) ?_
        refine zxK_branch C hP hS hl.1 (by decide) (Nat.le_of_ble_eq_true rfl) (by first | assumption | exact zx_in (by assumption) | exact zx_b10 (by assumption) | exact zx_b21 (by assumption) | exact zx_b31 (by assumption) | exact zx_b32 (by assumption) | exact zx_b42 (by assumption) | exact zx_b43 (by assumption) | exact zx_b33 (by assumption) | exact zx_b40 (by assumption) | exact zx_b41 (by assumption)) dX0_jumpOnLike_55 (fun u5 H locs hu5 hP hS => ?_)
        exact zx_vret C hr hlk hP hS (by subst hu5; exact (if_neg c1).trans ((if_neg c3).trans ((if_neg c4).trans (rfl)))) dX0_jumpOnLike_58
      · refine lv_iconst (v := 1) hx hb dX0_jumpOnLike_47 (by decide) ?_
        refine lv_goto (tgt := 52) hx hb dX0_jumpOnLike_48 (by decide) ?_
        refine lv_iload_n hx hb dX0_jumpOnLike_52 rfl (lv_at hl 0 rfl) ?_
        refine lv_bipush (v := 10) hx hb dX0_jumpOnLike_53 (by decide) ?_
        refine zxK_branch C hP hS hl.1 (by decide) (Nat.le_of_ble_eq_true rfl) (by first | assumption | exact zx_in (by assumption) | exact zx_b10 (by assumption) | exact zx_b21 (by assumption) | exact zx_b31 (by assumption) | exact zx_b32 (by assumption) | exact zx_b42 (by assumption) | exact zx_b43 (by assumption) | exact zx_b33 (by assumption) | exact zx_b40 (by assumption) | exact zx_b41 (by assumption)) dX0_jumpOnLike_55 (fun u6 H locs hu6 hP hS => ?_)
        exact zx_vret C hr hlk hP hS (by subst hu6; exact (if_neg c1).trans ((if_neg c3).trans ((if_pos c4).trans (rfl)))) dX0_jumpOnLike_58
    · refine lv_aload_n hx hb dX0_jumpOnLike_28 rfl (lv_at hl 2 rfl) ?_
      refine zxK_fault C hP hS hl.1 (by decide) (Nat.le_of_ble_eq_true rfl) dX0_jumpOnLike_29 (fun u7 H locs hu7 hP hS => ?_)
      exact zx_vret C hr hlk hP hS (by subst hu7; exact (if_neg c1).trans ((if_pos c3).trans (rfl))) dX0_jumpOnLike_32
section
variable {p : Program} {l : Launch} {e : Env} {R : Room} {s : State} {m : MethodId} {args : Array Value} {below : List Frame} {meth : Method} {c : Code} {H : Heap} {locs : List Loc} {Q : State → Prop} {cc : ByteArray} {pc nL : Nat} {ls : Array Slot} {rest : List Value} {k : Zxk} {u : Zxs} {H0 : Heap}
set_option maxHeartbeats 4000000 in
set_option maxRecDepth 100000 in
theorem zxK_jumpOnLike (C : ZxC p s m args c cc nL k) (hP : ZxP k u H) (hS : va_S (ZxA k) H0 H locs) (hsz : ls.size = nL) (hR : 4 + 1 ≤ R.frames ∧ 8 + (3 + 11) + 40 * 4 ≤ R.locals) (hw : (rest.map fun v => v.category).sum ≤ 8) (hdg : decode cc pc = .ok (.invokevirtual 124, 3)) (kk : ∀ (u1 : Zxs) (H1 : Heap) (locs1 : List Loc), u1 = zx_jumpOnLike u  → ZxP k u1 H1 → va_S (ZxA k) H0 H1 locs1 → W p l e R s m args below meth c H1 locs1 0 0 Q (F0 m (pc + 3) ls (rest))) : W p l e R s m args below meth c H locs 0 0 Q (F0 m pc ls (.ref (zxa_this k) :: rest)) :=
  zx_callV (y := yX0_jumpOnLike) (n := 0) (As := []) C (zxM_jumpOnLike l k C.2.2 u  ) wsX0_step_c_jumpOnLike wsX0_step_l_jumpOnLike wsX0_step_i_jumpOnLike wsX0_step_v_jumpOnLike rfl (by decide +kernel) hP hS hsz hR hw rfl hdg (fun H1 locs1 hP1 hS1 => kk _ H1 locs1 rfl hP1 hS1)
end
def zx_store (u : Zxs) (a1 a2 a3 : Int32) : Zxs :=
  if (zx_isWord a1) = 0 then (
    let u2 := zx_fault u
    u2)
  else (
    if (zx_isWord ((zxg_sp u) - 1)) = 0 then (
      let u8 := zx_fault u
      u8)
    else (
      let u4 := zxs_words u (upd (zxg_words u) a1.toNatClampNeg (zxg_top u))
      let u5 := zxs_sp u4 ((zxg_sp u) - 1)
      let u6 := zxs_top u5 (zxg_words u5 ((zxg_sp u) - 1).toNatClampNeg)
      let u7 := zx_finish u6 ((zxg_pc u6) + a2) a3
      u7))
set_option maxHeartbeats 4000000 in
set_option maxRecDepth 100000 in
theorem zxM_store (l : Launch) (k : Zxk) (Dk : ZxD k) (u : Zxs) (a1 a2 a3 : Int32) : Met l yX0_store (.code yX0_store cX0_store 5 none :: wsX0_step) (zrm 1) (ZxB k [.ref (zxa_this k), .int a1, .int a2, .int a3] u) (ZxQ k none (zx_store u a1 a2 a3)) 0 0 (ZxA k) := by
  refine zx_enter (by decide) rfl (Nat.le_of_ble_eq_true rfl) Dk ?_
  intro p e s m below meth c ls C hr hlk hP hl
  have hx := C.1.1
  have hb := C.1.2.1
  have hl : lv_has ls 5 [(0, .ref (zxa_this k)), (1, .int a1), (2, .int a2), (3, .int a3)] := hl
  have hS : va_S (ZxA k) s.heap s.heap [] := va_S.rf
  refine lv_aload_n hx hb dX0_store_0 rfl (lv_at hl 0 rfl) ?_
  refine zxG_sp C hP dX0_store_1 ?_
  refine lv_iconst (v := 1) hx hb dX0_store_4 (by decide) ?_
  refine lv_isub hx hb dX0_store_5 ?_
  refine lv_istore (lv' := [(4, .int ((zxg_sp u) - 1)), (0, .ref (zxa_this k)), (1, .int a1), (2, .int a2), (3, .int a3)]) hx hb dX0_store_6 hl (by decide) rfl (fun ls hl => ?_)
  refine lv_iload_n hx hb dX0_store_8 rfl (lv_at hl 2 rfl) ?_
  refine zxK_isWord C hl.1 (by decide) (Nat.le_of_ble_eq_true rfl) dX0_store_9 ?_
  refine lv_if_eq (tgt := 23) hx hb dX0_store_12 (by decide) (fun c1 => ?_) (fun c1 => ?_)
  · refine lv_aload_n hx hb dX0_store_23 rfl (lv_at hl 1 rfl) ?_
    refine zxK_fault C hP hS hl.1 (by decide) (Nat.le_of_ble_eq_true rfl) dX0_store_24 (fun u2 H locs hu2 hP hS => ?_)
    exact zx_vret C hr hlk hP hS (by subst hu2; exact (if_pos c1).trans (rfl)) dX0_store_27
  · refine lv_iload hx hb dX0_store_15 (lv_at hl 0 rfl) ?_
    refine zxK_isWord C hl.1 (by decide) (Nat.le_of_ble_eq_true rfl) dX0_store_17 ?_
    refine lv_if_ne (tgt := 28) hx hb dX0_store_20 (by decide) (fun c3 => ?_) (fun c3 => ?_)
    · refine lv_aload_n hx hb dX0_store_28 rfl (lv_at hl 1 rfl) ?_
      refine zxG_words C hP dX0_store_29 ?_
      refine lv_iload_n hx hb dX0_store_32 rfl (lv_at hl 2 rfl) ?_
      refine lv_aload_n hx hb dX0_store_33 rfl (lv_at hl 1 rfl) ?_
      refine zxG_top C hP dX0_store_34 ?_
      refine zxS_words C hP hS (by first | assumption | exact zx_in (by assumption) | exact zx_b10 (by assumption) | exact zx_b21 (by assumption) | exact zx_b31 (by assumption) | exact zx_b32 (by assumption) | exact zx_b42 (by assumption) | exact zx_b43 (by assumption) | exact zx_b33 (by assumption) | exact zx_b40 (by assumption) | exact zx_b41 (by assumption)) dX0_store_37 (fun u4 H locs hu4 hP hS => ?_)
      refine lv_aload_n hx hb dX0_store_38 rfl (lv_at hl 1 rfl) ?_
      refine lv_iload hx hb dX0_store_39 (lv_at hl 0 rfl) ?_
      refine zxP_sp C hP hS dX0_store_41 (fun u5 H locs hu5 hP hS => ?_)
      refine lv_aload_n hx hb dX0_store_44 rfl (lv_at hl 1 rfl) ?_
      refine lv_aload_n hx hb dX0_store_45 rfl (lv_at hl 1 rfl) ?_
      refine zxG_words C hP dX0_store_46 ?_
      refine lv_iload hx hb dX0_store_49 (lv_at hl 0 rfl) ?_
      refine zxL_words C hP (by first | assumption | exact zx_in (by assumption) | exact zx_b10 (by assumption) | exact zx_b21 (by assumption) | exact zx_b31 (by assumption) | exact zx_b32 (by assumption) | exact zx_b42 (by assumption) | exact zx_b43 (by assumption) | exact zx_b33 (by assumption) | exact zx_b40 (by assumption) | exact zx_b41 (by assumption)) dX0_store_51 ?_
      refine zxP_top C hP hS dX0_store_52 (fun u6 H locs hu6 hP hS => ?_)
      refine lv_aload_n hx hb dX0_store_55 rfl (lv_at hl 1 rfl) ?_
      refine lv_aload_n hx hb dX0_store_56 rfl (lv_at hl 1 rfl) ?_
      refine zxG_pc C hP dX0_store_57 ?_
      refine lv_iload_n hx hb dX0_store_60 rfl (lv_at hl 3 rfl) ?_
      refine lv_iadd hx hb dX0_store_61 ?_
      refine lv_iload_n hx hb dX0_store_62 rfl (lv_at hl 4 rfl) ?_
      refine zxK_finish C hP hS hl.1 (by decide) (Nat.le_of_ble_eq_true rfl) dX0_store_63 (fun u7 H locs hu7 hP hS => ?_)
      exact zx_vret C hr hlk hP hS (by subst hu4 hu5 hu6 hu7; exact (if_neg c1).trans ((if_neg c3).trans (rfl))) dX0_store_66
    · refine lv_aload_n hx hb dX0_store_23 rfl (lv_at hl 1 rfl) ?_
      refine zxK_fault C hP hS hl.1 (by decide) (Nat.le_of_ble_eq_true rfl) dX0_store_24 (fun u8 H locs hu8 hP hS => ?_)
      exact zx_vret C hr hlk hP hS (by subst hu8; exact (if_neg c1).trans ((if_pos c3).trans (rfl))) dX0_store_27
section
variable {p : Program} {l : Launch} {e : Env} {R : Room} {s : State} {m : MethodId} {args : Array Value} {below : List Frame} {meth : Method} {c : Code} {H : Heap} {locs : List Loc} {Q : State → Prop} {cc : ByteArray} {pc nL : Nat} {ls : Array Slot} {rest : List Value} {k : Zxk} {u : Zxs} {H0 : Heap}
set_option maxHeartbeats 4000000 in
set_option maxRecDepth 100000 in
theorem zxK_store {a1 a2 a3 : Int32} (C : ZxC p s m args c cc nL k) (hP : ZxP k u H) (hS : va_S (ZxA k) H0 H locs) (hsz : ls.size = nL) (hR : 1 + 1 ≤ R.frames ∧ 8 + (5 + 11) + 40 * 1 ≤ R.locals) (hw : (rest.map fun v => v.category).sum ≤ 8) (hdg : decode cc pc = .ok (.invokevirtual 146, 3)) (kk : ∀ (u1 : Zxs) (H1 : Heap) (locs1 : List Loc), u1 = zx_store u a1 a2 a3 → ZxP k u1 H1 → va_S (ZxA k) H0 H1 locs1 → W p l e R s m args below meth c H1 locs1 0 0 Q (F0 m (pc + 3) ls (rest))) : W p l e R s m args below meth c H locs 0 0 Q (F0 m pc ls (.int a3 :: .int a2 :: .int a1 :: .ref (zxa_this k) :: rest)) :=
  zx_callV (y := yX0_store) (n := 3) (As := [.int a1, .int a2, .int a3]) C (zxM_store l k C.2.2 u a1 a2 a3 ) wsX0_step_c_store wsX0_step_l_store wsX0_step_i_store wsX0_step_v_store rfl (by decide +kernel) hP hS hsz hR hw rfl hdg (fun H1 locs1 hP1 hS1 => kk _ H1 locs1 rfl hP1 hS1)
end
def zx_load (u : Zxs) (a1 a2 a3 : Int32) : Zxs :=
  if (zx_isWord a1) = 0 then (
    let u3 := zx_fault u
    u3)
  else (
    let u2 := zx_push u (zxg_words u a1.toNatClampNeg) a2 a3
    u2)
set_option maxHeartbeats 4000000 in
set_option maxRecDepth 100000 in
theorem zxM_load (l : Launch) (k : Zxk) (Dk : ZxD k) (u : Zxs) (a1 a2 a3 : Int32) : Met l yX0_load (.code yX0_load cX0_load 4 none :: wsX0_step) (zrm 2) (ZxB k [.ref (zxa_this k), .int a1, .int a2, .int a3] u) (ZxQ k none (zx_load u a1 a2 a3)) 0 0 (ZxA k) := by
  refine zx_enter (by decide) rfl (Nat.le_of_ble_eq_true rfl) Dk ?_
  intro p e s m below meth c ls C hr hlk hP hl
  have hx := C.1.1
  have hb := C.1.2.1
  have hl : lv_has ls 4 [(0, .ref (zxa_this k)), (1, .int a1), (2, .int a2), (3, .int a3)] := hl
  have hS : va_S (ZxA k) s.heap s.heap [] := va_S.rf
  refine lv_iload_n hx hb dX0_load_0 rfl (lv_at hl 1 rfl) ?_
  refine zxK_isWord C hl.1 (by decide) (Nat.le_of_ble_eq_true rfl) dX0_load_1 ?_
  refine lv_if_ne (tgt := 12) hx hb dX0_load_4 (by decide) (fun c1 => ?_) (fun c1 => ?_)
  · refine lv_aload_n hx hb dX0_load_12 rfl (lv_at hl 0 rfl) ?_
    refine lv_aload_n hx hb dX0_load_13 rfl (lv_at hl 0 rfl) ?_
    refine zxG_words C hP dX0_load_14 ?_
    refine lv_iload_n hx hb dX0_load_17 rfl (lv_at hl 1 rfl) ?_
    refine zxL_words C hP (by first | assumption | exact zx_in (by assumption) | exact zx_b10 (by assumption) | exact zx_b21 (by assumption) | exact zx_b31 (by assumption) | exact zx_b32 (by assumption) | exact zx_b42 (by assumption) | exact zx_b43 (by assumption) | exact zx_b33 (by assumption) | exact zx_b40 (by assumption) | exact zx_b41 (by assumption)) dX0_load_18 ?_
    refine lv_iload_n hx hb dX0_load_19 rfl (lv_at hl 2 rfl) ?_
    refine lv_iload_n hx hb dX0_load_20 rfl (lv_at hl 3 rfl) ?_
    refine zxK_push C hP hS hl.1 (by decide) (Nat.le_of_ble_eq_true rfl) dX0_load_21 (fun u2 H locs hu2 hP hS => ?_)
    exact zx_vret C hr hlk hP hS (by subst hu2; exact (if_neg c1).trans (rfl)) dX0_load_24
  · refine lv_aload_n hx hb dX0_load_7 rfl (lv_at hl 0 rfl) ?_
    refine zxK_fault C hP hS hl.1 (by decide) (Nat.le_of_ble_eq_true rfl) dX0_load_8 (fun u3 H locs hu3 hP hS => ?_)
    exact zx_vret C hr hlk hP hS (by subst hu3; exact (if_pos c1).trans (rfl)) dX0_load_11
section
variable {p : Program} {l : Launch} {e : Env} {R : Room} {s : State} {m : MethodId} {args : Array Value} {below : List Frame} {meth : Method} {c : Code} {H : Heap} {locs : List Loc} {Q : State → Prop} {cc : ByteArray} {pc nL : Nat} {ls : Array Slot} {rest : List Value} {k : Zxk} {u : Zxs} {H0 : Heap}
set_option maxHeartbeats 4000000 in
set_option maxRecDepth 100000 in
theorem zxK_load {a1 a2 a3 : Int32} (C : ZxC p s m args c cc nL k) (hP : ZxP k u H) (hS : va_S (ZxA k) H0 H locs) (hsz : ls.size = nL) (hR : 2 + 1 ≤ R.frames ∧ 8 + (4 + 11) + 40 * 2 ≤ R.locals) (hw : (rest.map fun v => v.category).sum ≤ 8) (hdg : decode cc pc = .ok (.invokevirtual 143, 3)) (kk : ∀ (u1 : Zxs) (H1 : Heap) (locs1 : List Loc), u1 = zx_load u a1 a2 a3 → ZxP k u1 H1 → va_S (ZxA k) H0 H1 locs1 → W p l e R s m args below meth c H1 locs1 0 0 Q (F0 m (pc + 3) ls (rest))) : W p l e R s m args below meth c H locs 0 0 Q (F0 m pc ls (.int a3 :: .int a2 :: .int a1 :: .ref (zxa_this k) :: rest)) :=
  zx_callV (y := yX0_load) (n := 3) (As := [.int a1, .int a2, .int a3]) C (zxM_load l k C.2.2 u a1 a2 a3 ) wsX0_step_c_load wsX0_step_l_load wsX0_step_i_load wsX0_step_v_load rfl (by decide +kernel) hP hS hsz hR hw rfl hdg (fun H1 locs1 hP1 hS1 => kk _ H1 locs1 rfl hP1 hS1)
end
def zx_loadNarrow (u : Zxs) : Zxs :=
  if (zx_areBytes (zxg_pc u) 2) = 0 then (
    let u3 := zx_fault u
    u3)
  else (
    let u2 := zx_load u ((zxg_lv u) + (zx_unsignedByte u ((zxg_pc u) + 1))) 2 6
    u2)
set_option maxHeartbeats 4000000 in
set_option maxRecDepth 100000 in
theorem zxM_loadNarrow (l : Launch) (k : Zxk) (Dk : ZxD k) (u : Zxs) : Met l yX0_loadNarrow (.code yX0_loadNarrow cX0_loadNarrow 1 none :: wsX0_step) (zrm 3) (ZxB k [.ref (zxa_this k)] u) (ZxQ k none (zx_loadNarrow u )) 0 0 (ZxA k) := by
  refine zx_enter (by decide) rfl (Nat.le_of_ble_eq_true rfl) Dk ?_
  intro p e s m below meth c ls C hr hlk hP hl
  have hx := C.1.1
  have hb := C.1.2.1
  have hl : lv_has ls 1 [(0, .ref (zxa_this k))] := hl
  have hS : va_S (ZxA k) s.heap s.heap [] := va_S.rf
  refine lv_aload_n hx hb dX0_loadNarrow_0 rfl (lv_at hl 0 rfl) ?_
  refine zxG_pc C hP dX0_loadNarrow_1 ?_
  refine lv_iconst (v := 2) hx hb dX0_loadNarrow_4 (by decide) ?_
  refine zxK_areBytes C hl.1 (by decide) (Nat.le_of_ble_eq_true rfl) dX0_loadNarrow_5 ?_
  refine lv_if_ne (tgt := 16) hx hb dX0_loadNarrow_8 (by decide) (fun c1 => ?_) (fun c1 => ?_)
  · refine lv_aload_n hx hb dX0_loadNarrow_16 rfl (lv_at hl 0 rfl) ?_
    refine lv_aload_n hx hb dX0_loadNarrow_17 rfl (lv_at hl 0 rfl) ?_
    refine zxG_lv C hP dX0_loadNarrow_18 ?_
    refine lv_aload_n hx hb dX0_loadNarrow_21 rfl (lv_at hl 0 rfl) ?_
    refine lv_aload_n hx hb dX0_loadNarrow_22 rfl (lv_at hl 0 rfl) ?_
    refine zxG_pc C hP dX0_loadNarrow_23 ?_
    refine lv_iconst (v := 1) hx hb dX0_loadNarrow_26 (by decide) ?_
    refine lv_iadd hx hb dX0_loadNarrow_27 ?_
    refine zxK_unsignedByte C hP hl.1 (by decide) (Nat.le_of_ble_eq_true rfl) (by first | assumption | exact zx_in (by assumption) | exact zx_b10 (by assumption) | exact zx_b21 (by assumption) | exact zx_b31 (by assumption) | exact zx_b32 (by assumption) | exact zx_b42 (by assumption) | exact zx_b43 (by assumption) | exact zx_b33 (by assumption) | exact zx_b40 (by assumption) | exact zx_b41 (by assumption)) dX0_loadNarrow_28 ?_
    refine lv_iadd hx hb dX0_loadNarrow_31 ?_
    refine lv_iconst (v := 2) hx hb dX0_loadNarrow_32 (by decide) ?_
    refine lv_bipush (v := 6) hx hb dX0_loadNarrow_33 (by decide) ?_
    refine zxK_load C hP hS hl.1 (by decide) (Nat.le_of_ble_eq_true rfl) dX0_loadNarrow_35 (fun u2 H locs hu2 hP hS => ?_)
    exact zx_vret C hr hlk hP hS (by subst hu2; exact (if_neg c1).trans (rfl)) dX0_loadNarrow_38
  · refine lv_aload_n hx hb dX0_loadNarrow_11 rfl (lv_at hl 0 rfl) ?_
    refine zxK_fault C hP hS hl.1 (by decide) (Nat.le_of_ble_eq_true rfl) dX0_loadNarrow_12 (fun u3 H locs hu3 hP hS => ?_)
    exact zx_vret C hr hlk hP hS (by subst hu3; exact (if_pos c1).trans (rfl)) dX0_loadNarrow_15
section
variable {p : Program} {l : Launch} {e : Env} {R : Room} {s : State} {m : MethodId} {args : Array Value} {below : List Frame} {meth : Method} {c : Code} {H : Heap} {locs : List Loc} {Q : State → Prop} {cc : ByteArray} {pc nL : Nat} {ls : Array Slot} {rest : List Value} {k : Zxk} {u : Zxs} {H0 : Heap}
set_option maxHeartbeats 4000000 in
set_option maxRecDepth 100000 in
theorem zxK_loadNarrow (C : ZxC p s m args c cc nL k) (hP : ZxP k u H) (hS : va_S (ZxA k) H0 H locs) (hsz : ls.size = nL) (hR : 3 + 1 ≤ R.frames ∧ 8 + (1 + 11) + 40 * 3 ≤ R.locals) (hw : (rest.map fun v => v.category).sum ≤ 8) (hdg : decode cc pc = .ok (.invokevirtual 102, 3)) (kk : ∀ (u1 : Zxs) (H1 : Heap) (locs1 : List Loc), u1 = zx_loadNarrow u  → ZxP k u1 H1 → va_S (ZxA k) H0 H1 locs1 → W p l e R s m args below meth c H1 locs1 0 0 Q (F0 m (pc + 3) ls (rest))) : W p l e R s m args below meth c H locs 0 0 Q (F0 m pc ls (.ref (zxa_this k) :: rest)) :=
  zx_callV (y := yX0_loadNarrow) (n := 0) (As := []) C (zxM_loadNarrow l k C.2.2 u  ) wsX0_step_c_loadNarrow wsX0_step_l_loadNarrow wsX0_step_i_loadNarrow wsX0_step_v_loadNarrow rfl (by decide +kernel) hP hS hsz hR hw rfl hdg (fun H1 locs1 hP1 hS1 => kk _ H1 locs1 rfl hP1 hS1)
end
def zx_storeNarrow (u : Zxs) : Zxs :=
  if (zx_areBytes (zxg_pc u) 2) = 0 then (
    let u3 := zx_fault u
    u3)
  else (
    let u2 := zx_store u ((zxg_lv u) + (zx_unsignedByte u ((zxg_pc u) + 1))) 2 7
    u2)
set_option maxHeartbeats 4000000 in
set_option maxRecDepth 100000 in
theorem zxM_storeNarrow (l : Launch) (k : Zxk) (Dk : ZxD k) (u : Zxs) : Met l yX0_storeNarrow (.code yX0_storeNarrow cX0_storeNarrow 1 none :: wsX0_step) (zrm 2) (ZxB k [.ref (zxa_this k)] u) (ZxQ k none (zx_storeNarrow u )) 0 0 (ZxA k) := by
  refine zx_enter (by decide) rfl (Nat.le_of_ble_eq_true rfl) Dk ?_
  intro p e s m below meth c ls C hr hlk hP hl
  have hx := C.1.1
  have hb := C.1.2.1
  have hl : lv_has ls 1 [(0, .ref (zxa_this k))] := hl
  have hS : va_S (ZxA k) s.heap s.heap [] := va_S.rf
  refine lv_aload_n hx hb dX0_storeNarrow_0 rfl (lv_at hl 0 rfl) ?_
  refine zxG_pc C hP dX0_storeNarrow_1 ?_
  refine lv_iconst (v := 2) hx hb dX0_storeNarrow_4 (by decide) ?_
  refine zxK_areBytes C hl.1 (by decide) (Nat.le_of_ble_eq_true rfl) dX0_storeNarrow_5 ?_
  refine lv_if_ne (tgt := 16) hx hb dX0_storeNarrow_8 (by decide) (fun c1 => ?_) (fun c1 => ?_)
  · refine lv_aload_n hx hb dX0_storeNarrow_16 rfl (lv_at hl 0 rfl) ?_
    refine lv_aload_n hx hb dX0_storeNarrow_17 rfl (lv_at hl 0 rfl) ?_
    refine zxG_lv C hP dX0_storeNarrow_18 ?_
    refine lv_aload_n hx hb dX0_storeNarrow_21 rfl (lv_at hl 0 rfl) ?_
    refine lv_aload_n hx hb dX0_storeNarrow_22 rfl (lv_at hl 0 rfl) ?_
    refine zxG_pc C hP dX0_storeNarrow_23 ?_
    refine lv_iconst (v := 1) hx hb dX0_storeNarrow_26 (by decide) ?_
    refine lv_iadd hx hb dX0_storeNarrow_27 ?_
    refine zxK_unsignedByte C hP hl.1 (by decide) (Nat.le_of_ble_eq_true rfl) (by first | assumption | exact zx_in (by assumption) | exact zx_b10 (by assumption) | exact zx_b21 (by assumption) | exact zx_b31 (by assumption) | exact zx_b32 (by assumption) | exact zx_b42 (by assumption) | exact zx_b43 (by assumption) | exact zx_b33 (by assumption) | exact zx_b40 (by assumption) | exact zx_b41 (by assumption)) dX0_storeNarrow_28 ?_
    refine lv_iadd hx hb dX0_storeNarrow_31 ?_
    refine lv_iconst (v := 2) hx hb dX0_storeNarrow_32 (by decide) ?_
    refine lv_bipush (v := 7) hx hb dX0_storeNarrow_33 (by decide) ?_
    refine zxK_store C hP hS hl.1 (by decide) (Nat.le_of_ble_eq_true rfl) dX0_storeNarrow_35 (fun u2 H locs hu2 hP hS => ?_)
    exact zx_vret C hr hlk hP hS (by subst hu2; exact (if_neg c1).trans (rfl)) dX0_storeNarrow_38
  · refine lv_aload_n hx hb dX0_storeNarrow_11 rfl (lv_at hl 0 rfl) ?_
    refine zxK_fault C hP hS hl.1 (by decide) (Nat.le_of_ble_eq_true rfl) dX0_storeNarrow_12 (fun u3 H locs hu3 hP hS => ?_)
    exact zx_vret C hr hlk hP hS (by subst hu3; exact (if_pos c1).trans (rfl)) dX0_storeNarrow_15
section
variable {p : Program} {l : Launch} {e : Env} {R : Room} {s : State} {m : MethodId} {args : Array Value} {below : List Frame} {meth : Method} {c : Code} {H : Heap} {locs : List Loc} {Q : State → Prop} {cc : ByteArray} {pc nL : Nat} {ls : Array Slot} {rest : List Value} {k : Zxk} {u : Zxs} {H0 : Heap}
set_option maxHeartbeats 4000000 in
set_option maxRecDepth 100000 in
theorem zxK_storeNarrow (C : ZxC p s m args c cc nL k) (hP : ZxP k u H) (hS : va_S (ZxA k) H0 H locs) (hsz : ls.size = nL) (hR : 2 + 1 ≤ R.frames ∧ 8 + (1 + 11) + 40 * 2 ≤ R.locals) (hw : (rest.map fun v => v.category).sum ≤ 8) (hdg : decode cc pc = .ok (.invokevirtual 105, 3)) (kk : ∀ (u1 : Zxs) (H1 : Heap) (locs1 : List Loc), u1 = zx_storeNarrow u  → ZxP k u1 H1 → va_S (ZxA k) H0 H1 locs1 → W p l e R s m args below meth c H1 locs1 0 0 Q (F0 m (pc + 3) ls (rest))) : W p l e R s m args below meth c H locs 0 0 Q (F0 m pc ls (.ref (zxa_this k) :: rest)) :=
  zx_callV (y := yX0_storeNarrow) (n := 0) (As := []) C (zxM_storeNarrow l k C.2.2 u  ) wsX0_step_c_storeNarrow wsX0_step_l_storeNarrow wsX0_step_i_storeNarrow wsX0_step_v_storeNarrow rfl (by decide +kernel) hP hS hsz hR hw rfl hdg (fun H1 locs1 hP1 hS1 => kk _ H1 locs1 rfl hP1 hS1)
end
def zx_wide (u : Zxs) : Zxs :=
  if (zx_areBytes (zxg_pc u) 2) = 0 then (
    let u15 := zx_fault u
    u15)
  else (
    if (zx_unsignedByte u ((zxg_pc u) + 1)) = 21 then (
      if (zx_areBytes (zxg_pc u) 4) = 0 then (
        let u7 := zx_fault u
        u7)
      else (
        if (zx_unsignedByte u ((zxg_pc u) + 1)) = 21 then (
          let u6 := zx_load u ((zxg_lv u) + (zx_unsignedPair u ((zxg_pc u) + 2))) 4 10
          u6)
        else (
          let u5 := zx_store u ((zxg_lv u) + (zx_unsignedPair u ((zxg_pc u) + 2))) 4 11
          u5)))
    else (
      if (zx_unsignedByte u ((zxg_pc u) + 1)) = 54 then (
        if (zx_areBytes (zxg_pc u) 4) = 0 then (
          let u13 := zx_fault u
          u13)
        else (
          if (zx_unsignedByte u ((zxg_pc u) + 1)) = 21 then (
            let u12 := zx_load u ((zxg_lv u) + (zx_unsignedPair u ((zxg_pc u) + 2))) 4 10
            u12)
          else (
            let u11 := zx_store u ((zxg_lv u) + (zx_unsignedPair u ((zxg_pc u) + 2))) 4 11
            u11)))
      else (
        let u14 := zx_trap u
        u14)))
set_option maxHeartbeats 4000000 in
set_option maxRecDepth 100000 in
theorem zxM_wide (l : Launch) (k : Zxk) (Dk : ZxD k) (u : Zxs) : Met l yX0_wide (.code yX0_wide cX0_wide 3 none :: wsX0_step) (zrm 3) (ZxB k [.ref (zxa_this k)] u) (ZxQ k none (zx_wide u )) 0 0 (ZxA k) := by
  refine zx_enter (by decide) rfl (Nat.le_of_ble_eq_true rfl) Dk ?_
  intro p e s m below meth c ls C hr hlk hP hl
  have hx := C.1.1
  have hb := C.1.2.1
  have hl : lv_has ls 3 [(0, .ref (zxa_this k))] := hl
  have hS : va_S (ZxA k) s.heap s.heap [] := va_S.rf
  refine lv_aload_n hx hb dX0_wide_0 rfl (lv_at hl 0 rfl) ?_
  refine zxG_pc C hP dX0_wide_1 ?_
  refine lv_iconst (v := 2) hx hb dX0_wide_4 (by decide) ?_
  refine zxK_areBytes C hl.1 (by decide) (Nat.le_of_ble_eq_true rfl) dX0_wide_5 ?_
  refine lv_if_ne (tgt := 16) hx hb dX0_wide_8 (by decide) (fun c1 => ?_) (fun c1 => ?_)
  · refine lv_aload_n hx hb dX0_wide_16 rfl (lv_at hl 0 rfl) ?_
    refine lv_aload_n hx hb dX0_wide_17 rfl (lv_at hl 0 rfl) ?_
    refine zxG_pc C hP dX0_wide_18 ?_
    refine lv_iconst (v := 1) hx hb dX0_wide_21 (by decide) ?_
    refine lv_iadd hx hb dX0_wide_22 ?_
    refine zxK_unsignedByte C hP hl.1 (by decide) (Nat.le_of_ble_eq_true rfl) (by first | assumption | exact zx_in (by assumption) | exact zx_b10 (by assumption) | exact zx_b21 (by assumption) | exact zx_b31 (by assumption) | exact zx_b32 (by assumption) | exact zx_b42 (by assumption) | exact zx_b43 (by assumption) | exact zx_b33 (by assumption) | exact zx_b40 (by assumption) | exact zx_b41 (by assumption)) dX0_wide_23 ?_
    refine lv_istore_n (lv' := [(1, .int (zx_unsignedByte u ((zxg_pc u) + 1))), (0, .ref (zxa_this k))]) hx hb dX0_wide_26 rfl hl (by decide) rfl (fun ls hl => ?_)
    refine lv_iload_n hx hb dX0_wide_27 rfl (lv_at hl 0 rfl) ?_
    refine lv_bipush (v := 21) hx hb dX0_wide_28 (by decide) ?_
    refine lv_icmp_eq (tgt := 44) hx hb dX0_wide_30 (by decide) (fun c2 => ?_) (fun c2 => ?_)
    · refine lv_aload_n hx hb dX0_wide_44 rfl (lv_at hl 1 rfl) ?_
      refine zxG_pc C hP dX0_wide_45 ?_
      refine lv_iconst (v := 4) hx hb dX0_wide_48 (by decide) ?_
      refine zxK_areBytes C hl.1 (by decide) (Nat.le_of_ble_eq_true rfl) dX0_wide_49 ?_
      refine lv_if_ne (tgt := 60) hx hb dX0_wide_52 (by decide) (fun c3 => ?_) (fun c3 => ?_)
      · refine lv_aload_n hx hb dX0_wide_60 rfl (lv_at hl 1 rfl) ?_
        refine zxG_lv C hP dX0_wide_61 ?_
        refine lv_aload_n hx hb dX0_wide_64 rfl (lv_at hl 1 rfl) ?_
        refine lv_aload_n hx hb dX0_wide_65 rfl (lv_at hl 1 rfl) ?_
        refine zxG_pc C hP dX0_wide_66 ?_
        refine lv_iconst (v := 2) hx hb dX0_wide_69 (by decide) ?_
        refine lv_iadd hx hb dX0_wide_70 ?_
        refine zxK_unsignedPair C hP hl.1 (by decide) (Nat.le_of_ble_eq_true rfl) (by first | assumption | exact zx_in (by assumption) | exact zx_b10 (by assumption) | exact zx_b21 (by assumption) | exact zx_b31 (by assumption) | exact zx_b32 (by assumption) | exact zx_b42 (by assumption) | exact zx_b43 (by assumption) | exact zx_b33 (by assumption) | exact zx_b40 (by assumption) | exact zx_b41 (by assumption)) (by first | assumption | exact zx_in (by assumption) | exact zx_b10 (by assumption) | exact zx_b21 (by assumption) | exact zx_b31 (by assumption) | exact zx_b32 (by assumption) | exact zx_b42 (by assumption) | exact zx_b43 (by assumption) | exact zx_b33 (by assumption) | exact zx_b40 (by assumption) | exact zx_b41 (by assumption)) dX0_wide_71 ?_
        refine lv_iadd hx hb dX0_wide_74 ?_
        refine lv_istore_n (lv' := [(2, .int ((zxg_lv u) + (zx_unsignedPair u ((zxg_pc u) + 2)))), (1, .int (zx_unsignedByte u ((zxg_pc u) + 1))), (0, .ref (zxa_this k))]) hx hb dX0_wide_75 rfl hl (by decide) rfl (fun ls hl => ?_)
        refine lv_iload_n hx hb dX0_wide_76 rfl (lv_at hl 1 rfl) ?_
        refine lv_bipush (v := 21) hx hb dX0_wide_77 (by decide) ?_
        refine lv_icmp_ne (tgt := 93) hx hb dX0_wide_79 (by decide) (fun c4 => ?_) (fun c4 => ?_)
        · refine lv_aload_n hx hb dX0_wide_93 rfl (lv_at hl 2 rfl) ?_
          refine lv_iload_n hx hb dX0_wide_94 rfl (lv_at hl 0 rfl) ?_
          refine lv_iconst (v := 4) hx hb dX0_wide_95 (by decide) ?_
          refine lv_bipush (v := 11) hx hb dX0_wide_96 (by decide) ?_
          refine zxK_store C hP hS hl.1 (by decide) (Nat.le_of_ble_eq_true rfl) dX0_wide_98 (fun u5 H locs hu5 hP hS => ?_)
          exact zx_vret C hr hlk hP hS (by subst hu5; exact (if_neg c1).trans ((if_pos c2).trans ((if_neg c3).trans ((if_neg c4).trans (rfl))))) dX0_wide_101
        · refine lv_aload_n hx hb dX0_wide_82 rfl (lv_at hl 2 rfl) ?_
          refine lv_iload_n hx hb dX0_wide_83 rfl (lv_at hl 0 rfl) ?_
          refine lv_iconst (v := 4) hx hb dX0_wide_84 (by decide) ?_
          refine lv_bipush (v := 10) hx hb dX0_wide_85 (by decide) ?_
          refine zxK_load C hP hS hl.1 (by decide) (Nat.le_of_ble_eq_true rfl) dX0_wide_87 (fun u6 H locs hu6 hP hS => ?_)
          refine lv_goto (tgt := 101) hx hb dX0_wide_90 (by decide) ?_
          exact zx_vret C hr hlk hP hS (by subst hu6; exact (if_neg c1).trans ((if_pos c2).trans ((if_neg c3).trans ((if_pos c4).trans (rfl))))) dX0_wide_101
      · refine lv_aload_n hx hb dX0_wide_55 rfl (lv_at hl 1 rfl) ?_
        refine zxK_fault C hP hS hl.1 (by decide) (Nat.le_of_ble_eq_true rfl) dX0_wide_56 (fun u7 H locs hu7 hP hS => ?_)
        exact zx_vret C hr hlk hP hS (by subst hu7; exact (if_neg c1).trans ((if_pos c2).trans ((if_pos c3).trans (rfl)))) dX0_wide_59
    · refine lv_iload_n hx hb dX0_wide_33 rfl (lv_at hl 0 rfl) ?_
      refine lv_bipush (v := 54) hx hb dX0_wide_34 (by decide) ?_
      refine lv_icmp_eq (tgt := 44) hx hb dX0_wide_36 (by decide) (fun c8 => ?_) (fun c8 => ?_)
      · refine lv_aload_n hx hb dX0_wide_44 rfl (lv_at hl 1 rfl) ?_
        refine zxG_pc C hP dX0_wide_45 ?_
        refine lv_iconst (v := 4) hx hb dX0_wide_48 (by decide) ?_
        refine zxK_areBytes C hl.1 (by decide) (Nat.le_of_ble_eq_true rfl) dX0_wide_49 ?_
        refine lv_if_ne (tgt := 60) hx hb dX0_wide_52 (by decide) (fun c9 => ?_) (fun c9 => ?_)
        · refine lv_aload_n hx hb dX0_wide_60 rfl (lv_at hl 1 rfl) ?_
          refine zxG_lv C hP dX0_wide_61 ?_
          refine lv_aload_n hx hb dX0_wide_64 rfl (lv_at hl 1 rfl) ?_
          refine lv_aload_n hx hb dX0_wide_65 rfl (lv_at hl 1 rfl) ?_
          refine zxG_pc C hP dX0_wide_66 ?_
          refine lv_iconst (v := 2) hx hb dX0_wide_69 (by decide) ?_
          refine lv_iadd hx hb dX0_wide_70 ?_
          refine zxK_unsignedPair C hP hl.1 (by decide) (Nat.le_of_ble_eq_true rfl) (by first | assumption | exact zx_in (by assumption) | exact zx_b10 (by assumption) | exact zx_b21 (by assumption) | exact zx_b31 (by assumption) | exact zx_b32 (by assumption) | exact zx_b42 (by assumption) | exact zx_b43 (by assumption) | exact zx_b33 (by assumption) | exact zx_b40 (by assumption) | exact zx_b41 (by assumption)) (by first | assumption | exact zx_in (by assumption) | exact zx_b10 (by assumption) | exact zx_b21 (by assumption) | exact zx_b31 (by assumption) | exact zx_b32 (by assumption) | exact zx_b42 (by assumption) | exact zx_b43 (by assumption) | exact zx_b33 (by assumption) | exact zx_b40 (by assumption) | exact zx_b41 (by assumption)) dX0_wide_71 ?_
          refine lv_iadd hx hb dX0_wide_74 ?_
          refine lv_istore_n (lv' := [(2, .int ((zxg_lv u) + (zx_unsignedPair u ((zxg_pc u) + 2)))), (1, .int (zx_unsignedByte u ((zxg_pc u) + 1))), (0, .ref (zxa_this k))]) hx hb dX0_wide_75 rfl hl (by decide) rfl (fun ls hl => ?_)
          refine lv_iload_n hx hb dX0_wide_76 rfl (lv_at hl 1 rfl) ?_
          refine lv_bipush (v := 21) hx hb dX0_wide_77 (by decide) ?_
          refine lv_icmp_ne (tgt := 93) hx hb dX0_wide_79 (by decide) (fun c10 => ?_) (fun c10 => ?_)
          · refine lv_aload_n hx hb dX0_wide_93 rfl (lv_at hl 2 rfl) ?_
            refine lv_iload_n hx hb dX0_wide_94 rfl (lv_at hl 0 rfl) ?_
            refine lv_iconst (v := 4) hx hb dX0_wide_95 (by decide) ?_
            refine lv_bipush (v := 11) hx hb dX0_wide_96 (by decide) ?_
            refine zxK_store C hP hS hl.1 (by decide) (Nat.le_of_ble_eq_true rfl) dX0_wide_98 (fun u11 H locs hu11 hP hS => ?_)
            exact zx_vret C hr hlk hP hS (by subst hu11; exact (if_neg c1).trans ((if_neg c2).trans ((if_pos c8).trans ((if_neg c9).trans ((if_neg c10).trans (rfl)))))) dX0_wide_101
          · refine lv_aload_n hx hb dX0_wide_82 rfl (lv_at hl 2 rfl) ?_
            refine lv_iload_n hx hb dX0_wide_83 rfl (lv_at hl 0 rfl) ?_
            refine lv_iconst (v := 4) hx hb dX0_wide_84 (by decide) ?_
            refine lv_bipush (v := 10) hx hb dX0_wide_85 (by decide) ?_
            refine zxK_load C hP hS hl.1 (by decide) (Nat.le_of_ble_eq_true rfl) dX0_wide_87 (fun u12 H locs hu12 hP hS => ?_)
            refine lv_goto (tgt := 101) hx hb dX0_wide_90 (by decide) ?_
            exact zx_vret C hr hlk hP hS (by subst hu12; exact (if_neg c1).trans ((if_neg c2).trans ((if_pos c8).trans ((if_neg c9).trans ((if_pos c10).trans (rfl)))))) dX0_wide_101
        · refine lv_aload_n hx hb dX0_wide_55 rfl (lv_at hl 1 rfl) ?_
          refine zxK_fault C hP hS hl.1 (by decide) (Nat.le_of_ble_eq_true rfl) dX0_wide_56 (fun u13 H locs hu13 hP hS => ?_)
          exact zx_vret C hr hlk hP hS (by subst hu13; exact (if_neg c1).trans ((if_neg c2).trans ((if_pos c8).trans ((if_pos c9).trans (rfl))))) dX0_wide_59
      · refine lv_aload_n hx hb dX0_wide_39 rfl (lv_at hl 1 rfl) ?_
        refine zxK_trap C hP hS hl.1 (by decide) (Nat.le_of_ble_eq_true rfl) dX0_wide_40 (fun u14 H locs hu14 hP hS => ?_)
        exact zx_vret C hr hlk hP hS (by subst hu14; exact (if_neg c1).trans ((if_neg c2).trans ((if_neg c8).trans (rfl)))) dX0_wide_43
  · refine lv_aload_n hx hb dX0_wide_11 rfl (lv_at hl 0 rfl) ?_
    refine zxK_fault C hP hS hl.1 (by decide) (Nat.le_of_ble_eq_true rfl) dX0_wide_12 (fun u15 H locs hu15 hP hS => ?_)
    exact zx_vret C hr hlk hP hS (by subst hu15; exact (if_pos c1).trans (rfl)) dX0_wide_15
section
variable {p : Program} {l : Launch} {e : Env} {R : Room} {s : State} {m : MethodId} {args : Array Value} {below : List Frame} {meth : Method} {c : Code} {H : Heap} {locs : List Loc} {Q : State → Prop} {cc : ByteArray} {pc nL : Nat} {ls : Array Slot} {rest : List Value} {k : Zxk} {u : Zxs} {H0 : Heap}
set_option maxHeartbeats 4000000 in
set_option maxRecDepth 100000 in
theorem zxK_wide (C : ZxC p s m args c cc nL k) (hP : ZxP k u H) (hS : va_S (ZxA k) H0 H locs) (hsz : ls.size = nL) (hR : 3 + 1 ≤ R.frames ∧ 8 + (3 + 11) + 40 * 3 ≤ R.locals) (hw : (rest.map fun v => v.category).sum ≤ 8) (hdg : decode cc pc = .ok (.invokevirtual 108, 3)) (kk : ∀ (u1 : Zxs) (H1 : Heap) (locs1 : List Loc), u1 = zx_wide u  → ZxP k u1 H1 → va_S (ZxA k) H0 H1 locs1 → W p l e R s m args below meth c H1 locs1 0 0 Q (F0 m (pc + 3) ls (rest))) : W p l e R s m args below meth c H locs 0 0 Q (F0 m pc ls (.ref (zxa_this k) :: rest)) :=
  zx_callV (y := yX0_wide) (n := 0) (As := []) C (zxM_wide l k C.2.2 u  ) wsX0_step_c_wide wsX0_step_l_wide wsX0_step_i_wide wsX0_step_v_wide rfl (by decide +kernel) hP hS hsz hR hw rfl hdg (fun H1 locs1 hP1 hS1 => kk _ H1 locs1 rfl hP1 hS1)
end
def zx_loadConstant (u : Zxs) : Zxs :=
  if (zx_areBytes (zxg_pc u) 3) = 0 then (
    let u3 := zx_fault u
    u3)
  else (
    let u2 := zx_load u ((zxg_cpp u) + (zx_unsignedPair u ((zxg_pc u) + 1))) 3 8
    u2)
set_option maxHeartbeats 4000000 in
set_option maxRecDepth 100000 in
theorem zxM_loadConstant (l : Launch) (k : Zxk) (Dk : ZxD k) (u : Zxs) : Met l yX0_loadConstant (.code yX0_loadConstant cX0_loadConstant 1 none :: wsX0_step) (zrm 3) (ZxB k [.ref (zxa_this k)] u) (ZxQ k none (zx_loadConstant u )) 0 0 (ZxA k) := by
  refine zx_enter (by decide) rfl (Nat.le_of_ble_eq_true rfl) Dk ?_
  intro p e s m below meth c ls C hr hlk hP hl
  have hx := C.1.1
  have hb := C.1.2.1
  have hl : lv_has ls 1 [(0, .ref (zxa_this k))] := hl
  have hS : va_S (ZxA k) s.heap s.heap [] := va_S.rf
  refine lv_aload_n hx hb dX0_loadConstant_0 rfl (lv_at hl 0 rfl) ?_
  refine zxG_pc C hP dX0_loadConstant_1 ?_
  refine lv_iconst (v := 3) hx hb dX0_loadConstant_4 (by decide) ?_
  refine zxK_areBytes C hl.1 (by decide) (Nat.le_of_ble_eq_true rfl) dX0_loadConstant_5 ?_
  refine lv_if_ne (tgt := 16) hx hb dX0_loadConstant_8 (by decide) (fun c1 => ?_) (fun c1 => ?_)
  · refine lv_aload_n hx hb dX0_loadConstant_16 rfl (lv_at hl 0 rfl) ?_
    refine lv_aload_n hx hb dX0_loadConstant_17 rfl (lv_at hl 0 rfl) ?_
    refine zxG_cpp C hP dX0_loadConstant_18 ?_
    refine lv_aload_n hx hb dX0_loadConstant_21 rfl (lv_at hl 0 rfl) ?_
    refine lv_aload_n hx hb dX0_loadConstant_22 rfl (lv_at hl 0 rfl) ?_
    refine zxG_pc C hP dX0_loadConstant_23 ?_
    refine lv_iconst (v := 1) hx hb dX0_loadConstant_26 (by decide) ?_
    refine lv_iadd hx hb dX0_loadConstant_27 ?_
    refine zxK_unsignedPair C hP hl.1 (by decide) (Nat.le_of_ble_eq_true rfl) (by first | assumption | exact zx_in (by assumption) | exact zx_b10 (by assumption) | exact zx_b21 (by assumption) | exact zx_b31 (by assumption) | exact zx_b32 (by assumption) | exact zx_b42 (by assumption) | exact zx_b43 (by assumption) | exact zx_b33 (by assumption) | exact zx_b40 (by assumption) | exact zx_b41 (by assumption)) (by first | assumption | exact zx_in (by assumption) | exact zx_b10 (by assumption) | exact zx_b21 (by assumption) | exact zx_b31 (by assumption) | exact zx_b32 (by assumption) | exact zx_b42 (by assumption) | exact zx_b43 (by assumption) | exact zx_b33 (by assumption) | exact zx_b40 (by assumption) | exact zx_b41 (by assumption)) dX0_loadConstant_28 ?_
    refine lv_iadd hx hb dX0_loadConstant_31 ?_
    refine lv_iconst (v := 3) hx hb dX0_loadConstant_32 (by decide) ?_
    refine lv_bipush (v := 8) hx hb dX0_loadConstant_33 (by decide) ?_
    refine zxK_load C hP hS hl.1 (by decide) (Nat.le_of_ble_eq_true rfl) dX0_loadConstant_35 (fun u2 H locs hu2 hP hS => ?_)
    exact zx_vret C hr hlk hP hS (by subst hu2; exact (if_neg c1).trans (rfl)) dX0_loadConstant_38
  · refine lv_aload_n hx hb dX0_loadConstant_11 rfl (lv_at hl 0 rfl) ?_
    refine zxK_fault C hP hS hl.1 (by decide) (Nat.le_of_ble_eq_true rfl) dX0_loadConstant_12 (fun u3 H locs hu3 hP hS => ?_)
    exact zx_vret C hr hlk hP hS (by subst hu3; exact (if_pos c1).trans (rfl)) dX0_loadConstant_15
section
variable {p : Program} {l : Launch} {e : Env} {R : Room} {s : State} {m : MethodId} {args : Array Value} {below : List Frame} {meth : Method} {c : Code} {H : Heap} {locs : List Loc} {Q : State → Prop} {cc : ByteArray} {pc nL : Nat} {ls : Array Slot} {rest : List Value} {k : Zxk} {u : Zxs} {H0 : Heap}
set_option maxHeartbeats 4000000 in
set_option maxRecDepth 100000 in
theorem zxK_loadConstant (C : ZxC p s m args c cc nL k) (hP : ZxP k u H) (hS : va_S (ZxA k) H0 H locs) (hsz : ls.size = nL) (hR : 3 + 1 ≤ R.frames ∧ 8 + (1 + 11) + 40 * 3 ≤ R.locals) (hw : (rest.map fun v => v.category).sum ≤ 8) (hdg : decode cc pc = .ok (.invokevirtual 111, 3)) (kk : ∀ (u1 : Zxs) (H1 : Heap) (locs1 : List Loc), u1 = zx_loadConstant u  → ZxP k u1 H1 → va_S (ZxA k) H0 H1 locs1 → W p l e R s m args below meth c H1 locs1 0 0 Q (F0 m (pc + 3) ls (rest))) : W p l e R s m args below meth c H locs 0 0 Q (F0 m pc ls (.ref (zxa_this k) :: rest)) :=
  zx_callV (y := yX0_loadConstant) (n := 0) (As := []) C (zxM_loadConstant l k C.2.2 u  ) wsX0_step_c_loadConstant wsX0_step_l_loadConstant wsX0_step_i_loadConstant wsX0_step_v_loadConstant rfl (by decide +kernel) hP hS hsz hR hw rfl hdg (fun H1 locs1 hP1 hS1 => kk _ H1 locs1 rfl hP1 hS1)
end
def zx_pushByte (u : Zxs) : Zxs :=
  if (zx_areBytes (zxg_pc u) 2) = 0 then (
    let u3 := zx_fault u
    u3)
  else (
    let u2 := zx_push u (zxg_bytes u ((zxg_pc u) + 1).toNatClampNeg) 2 4
    u2)
set_option maxHeartbeats 4000000 in
set_option maxRecDepth 100000 in
theorem zxM_pushByte (l : Launch) (k : Zxk) (Dk : ZxD k) (u : Zxs) : Met l yX0_pushByte (.code yX0_pushByte cX0_pushByte 1 none :: wsX0_step) (zrm 2) (ZxB k [.ref (zxa_this k)] u) (ZxQ k none (zx_pushByte u )) 0 0 (ZxA k) := by
  refine zx_enter (by decide) rfl (Nat.le_of_ble_eq_true rfl) Dk ?_
  intro p e s m below meth c ls C hr hlk hP hl
  have hx := C.1.1
  have hb := C.1.2.1
  have hl : lv_has ls 1 [(0, .ref (zxa_this k))] := hl
  have hS : va_S (ZxA k) s.heap s.heap [] := va_S.rf
  refine lv_aload_n hx hb dX0_pushByte_0 rfl (lv_at hl 0 rfl) ?_
  refine zxG_pc C hP dX0_pushByte_1 ?_
  refine lv_iconst (v := 2) hx hb dX0_pushByte_4 (by decide) ?_
  refine zxK_areBytes C hl.1 (by decide) (Nat.le_of_ble_eq_true rfl) dX0_pushByte_5 ?_
  refine lv_if_ne (tgt := 16) hx hb dX0_pushByte_8 (by decide) (fun c1 => ?_) (fun c1 => ?_)
  · refine lv_aload_n hx hb dX0_pushByte_16 rfl (lv_at hl 0 rfl) ?_
    refine lv_aload_n hx hb dX0_pushByte_17 rfl (lv_at hl 0 rfl) ?_
    refine zxG_bytes C hP dX0_pushByte_18 ?_
    refine lv_aload_n hx hb dX0_pushByte_21 rfl (lv_at hl 0 rfl) ?_
    refine zxG_pc C hP dX0_pushByte_22 ?_
    refine lv_iconst (v := 1) hx hb dX0_pushByte_25 (by decide) ?_
    refine lv_iadd hx hb dX0_pushByte_26 ?_
    refine zxL_bytes C hP (by first | assumption | exact zx_in (by assumption) | exact zx_b10 (by assumption) | exact zx_b21 (by assumption) | exact zx_b31 (by assumption) | exact zx_b32 (by assumption) | exact zx_b42 (by assumption) | exact zx_b43 (by assumption) | exact zx_b33 (by assumption) | exact zx_b40 (by assumption) | exact zx_b41 (by assumption)) dX0_pushByte_27 ?_
    refine lv_iconst (v := 2) hx hb dX0_pushByte_28 (by decide) ?_
    refine lv_iconst (v := 4) hx hb dX0_pushByte_29 (by decide) ?_
    refine zxK_push C hP hS hl.1 (by decide) (Nat.le_of_ble_eq_true rfl) dX0_pushByte_30 (fun u2 H locs hu2 hP hS => ?_)
    exact zx_vret C hr hlk hP hS (by subst hu2; exact (if_neg c1).trans (rfl)) dX0_pushByte_33
  · refine lv_aload_n hx hb dX0_pushByte_11 rfl (lv_at hl 0 rfl) ?_
    refine zxK_fault C hP hS hl.1 (by decide) (Nat.le_of_ble_eq_true rfl) dX0_pushByte_12 (fun u3 H locs hu3 hP hS => ?_)
    exact zx_vret C hr hlk hP hS (by subst hu3; exact (if_pos c1).trans (rfl)) dX0_pushByte_15
section
variable {p : Program} {l : Launch} {e : Env} {R : Room} {s : State} {m : MethodId} {args : Array Value} {below : List Frame} {meth : Method} {c : Code} {H : Heap} {locs : List Loc} {Q : State → Prop} {cc : ByteArray} {pc nL : Nat} {ls : Array Slot} {rest : List Value} {k : Zxk} {u : Zxs} {H0 : Heap}
set_option maxHeartbeats 4000000 in
set_option maxRecDepth 100000 in
theorem zxK_pushByte (C : ZxC p s m args c cc nL k) (hP : ZxP k u H) (hS : va_S (ZxA k) H0 H locs) (hsz : ls.size = nL) (hR : 2 + 1 ≤ R.frames ∧ 8 + (1 + 11) + 40 * 2 ≤ R.locals) (hw : (rest.map fun v => v.category).sum ≤ 8) (hdg : decode cc pc = .ok (.invokevirtual 99, 3)) (kk : ∀ (u1 : Zxs) (H1 : Heap) (locs1 : List Loc), u1 = zx_pushByte u  → ZxP k u1 H1 → va_S (ZxA k) H0 H1 locs1 → W p l e R s m args below meth c H1 locs1 0 0 Q (F0 m (pc + 3) ls (rest))) : W p l e R s m args below meth c H locs 0 0 Q (F0 m pc ls (.ref (zxa_this k) :: rest)) :=
  zx_callV (y := yX0_pushByte) (n := 0) (As := []) C (zxM_pushByte l k C.2.2 u  ) wsX0_step_c_pushByte wsX0_step_l_pushByte wsX0_step_i_pushByte wsX0_step_v_pushByte rfl (by decide +kernel) hP hS hsz hR hw rfl hdg (fun H1 locs1 hP1 hS1 => kk _ H1 locs1 rfl hP1 hS1)
end
