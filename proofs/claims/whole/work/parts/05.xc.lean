def zx_increase (u : Zxs) : Zxs :=
  if (zx_areBytes (zxg_pc u) 3) = 0 then (
    let u6 := zx_fault u
    u6)
  else (
    if (zx_isWord ((zxg_lv u) + (zx_unsignedByte u ((zxg_pc u) + 1)))) = 0 then (
      let u5 := zx_fault u
      u5)
    else (
      let u3 := zxs_words u (upd (zxg_words u) ((zxg_lv u) + (zx_unsignedByte u ((zxg_pc u) + 1))).toNatClampNeg ((zxg_words u ((zxg_lv u) + (zx_unsignedByte u ((zxg_pc u) + 1))).toNatClampNeg) + (zxg_bytes u ((zxg_pc u) + 2).toNatClampNeg)))
      let u4 := zx_finish u3 ((zxg_pc u3) + 3) 7
      u4))
set_option maxHeartbeats 4000000 in
set_option maxRecDepth 100000 in
theorem zxM_increase (l : Launch) (k : Zxk) (Dk : ZxD k) (u : Zxs) : Met l yX0_increase (.code yX0_increase cX0_increase 2 none :: wsX0_step) (zrm 1) (ZxB k [.ref (zxa_this k)] u) (ZxQ k none (zx_increase u )) 0 0 (ZxA k) := by
  refine zx_enter (by decide) rfl (Nat.le_of_ble_eq_true rfl) Dk ?_
  intro p e s m below meth c ls C hr hlk hP hl
  have hx := C.1.1
  have hb := C.1.2.1
  have hl : lv_has ls 2 [(0, .ref (zxa_this k))] := hl
  have hS : va_S (ZxA k) s.heap s.heap [] := va_S.rf
  refine lv_aload_n hx hb dX0_increase_0 rfl (lv_at hl 0 rfl) ?_
  refine zxG_pc C hP dX0_increase_1 ?_
  refine lv_iconst (v := 3) hx hb dX0_increase_4 (by decide) ?_
  refine zxK_areBytes C hl.1 (by decide) (Nat.le_of_ble_eq_true rfl) dX0_increase_5 ?_
  refine lv_if_ne (tgt := 16) hx hb dX0_increase_8 (by decide) (fun c1 => ?_) (fun c1 => ?_)
  · refine lv_aload_n hx hb dX0_increase_16 rfl (lv_at hl 0 rfl) ?_
    refine zxG_lv C hP dX0_increase_17 ?_
    refine lv_aload_n hx hb dX0_increase_20 rfl (lv_at hl 0 rfl) ?_
    refine lv_aload_n hx hb dX0_increase_21 rfl (lv_at hl 0 rfl) ?_
    refine zxG_pc C hP dX0_increase_22 ?_
    refine lv_iconst (v := 1) hx hb dX0_increase_25 (by decide) ?_
    refine lv_iadd hx hb dX0_increase_26 ?_
    refine zxK_unsignedByte C hP hl.1 (by decide) (Nat.le_of_ble_eq_true rfl) (by first | assumption | exact zx_in (by assumption) | exact zx_b10 (by assumption) | exact zx_b21 (by assumption) | exact zx_b31 (by assumption) | exact zx_b32 (by assumption) | exact zx_b42 (by assumption) | exact zx_b43 (by assumption) | exact zx_b33 (by assumption) | exact zx_b40 (by assumption) | exact zx_b41 (by assumption)) dX0_increase_27 ?_
    refine lv_iadd hx hb dX0_increase_30 ?_
    refine lv_istore_n (lv' := [(1, .int ((zxg_lv u) + (zx_unsignedByte u ((zxg_pc u) + 1)))), (0, .ref (zxa_this k))]) hx hb dX0_increase_31 rfl hl (by decide) rfl (fun ls hl => ?_)
    refine lv_iload_n hx hb dX0_increase_32 rfl (lv_at hl 0 rfl) ?_
    refine zxK_isWord C hl.1 (by decide) (Nat.le_of_ble_eq_true rfl) dX0_increase_33 ?_
    refine lv_if_ne (tgt := 44) hx hb dX0_increase_36 (by decide) (fun c2 => ?_) (fun c2 => ?_)
    · refine lv_aload_n hx hb dX0_increase_44 rfl (lv_at hl 1 rfl) ?_
      refine zxG_words C hP dX0_increase_45 ?_
      refine lv_iload_n hx hb dX0_increase_48 rfl (lv_at hl 0 rfl) ?_
      refine lv_dup2_11 hx hb dX0_increase_49 rfl rfl ?_
      refine zxL_words C hP (by first | assumption | exact zx_in (by assumption) | exact zx_b10 (by assumption) | exact zx_b21 (by assumption) | exact zx_b31 (by assumption) | exact zx_b32 (by assumption) | exact zx_b42 (by assumption) | exact zx_b43 (by assumption) | exact zx_b33 (by assumption) | exact zx_b40 (by assumption) | exact zx_b41 (by assumption)) dX0_increase_50 ?_
      refine lv_aload_n hx hb dX0_increase_51 rfl (lv_at hl 1 rfl) ?_
      refine zxG_bytes C hP dX0_increase_52 ?_
      refine lv_aload_n hx hb dX0_increase_55 rfl (lv_at hl 1 rfl) ?_
      refine zxG_pc C hP dX0_increase_56 ?_
      refine lv_iconst (v := 2) hx hb dX0_increase_59 (by decide) ?_
      refine lv_iadd hx hb dX0_increase_60 ?_
      refine zxL_bytes C hP (by first | assumption | exact zx_in (by assumption) | exact zx_b10 (by assumption) | exact zx_b21 (by assumption) | exact zx_b31 (by assumption) | exact zx_b32 (by assumption) | exact zx_b42 (by assumption) | exact zx_b43 (by assumption) | exact zx_b33 (by assumption) | exact zx_b40 (by assumption) | exact zx_b41 (by assumption)) dX0_increase_61 ?_
      refine lv_iadd hx hb dX0_increase_62 ?_
      refine zxS_words C hP hS (by first | assumption | exact zx_in (by assumption) | exact zx_b10 (by assumption) | exact zx_b21 (by assumption) | exact zx_b31 (by assumption) | exact zx_b32 (by assumption) | exact zx_b42 (by assumption) | exact zx_b43 (by assumption) | exact zx_b33 (by assumption) | exact zx_b40 (by assumption) | exact zx_b41 (by assumption)) dX0_increase_63 (fun u3 H locs hu3 hP hS => ?_)
      refine lv_aload_n hx hb dX0_increase_64 rfl (lv_at hl 1 rfl) ?_
      refine lv_aload_n hx hb dX0_increase_65 rfl (lv_at hl 1 rfl) ?_
      refine zxG_pc C hP dX0_increase_66 ?_
      refine lv_iconst (v := 3) hx hb dX0_increase_69 (by decide) ?_
      refine lv_iadd hx hb dX0_increase_70 ?_
      refine lv_bipush (v := 7) hx hb dX0_increase_71 (by decide) ?_
      refine zxK_finish C hP hS hl.1 (by decide) (Nat.le_of_ble_eq_true rfl) dX0_increase_73 (fun u4 H locs hu4 hP hS => ?_)
      exact zx_vret C hr hlk hP hS (by subst hu3 hu4; exact (if_neg c1).trans ((if_neg c2).trans (rfl))) dX0_increase_76
    · refine lv_aload_n hx hb dX0_increase_39 rfl (lv_at hl 1 rfl) ?_
      refine zxK_fault C hP hS hl.1 (by decide) (Nat.le_of_ble_eq_true rfl) dX0_increase_40 (fun u5 H locs hu5 hP hS => ?_)
      exact zx_vret C hr hlk hP hS (by subst hu5; exact (if_neg c1).trans ((if_pos c2).trans (rfl))) dX0_increase_43
  · refine lv_aload_n hx hb dX0_increase_11 rfl (lv_at hl 0 rfl) ?_
    refine zxK_fault C hP hS hl.1 (by decide) (Nat.le_of_ble_eq_true rfl) dX0_increase_12 (fun u6 H locs hu6 hP hS => ?_)
    exact zx_vret C hr hlk hP hS (by subst hu6; exact (if_pos c1).trans (rfl)) dX0_increase_15
section
variable {p : Program} {l : Launch} {e : Env} {R : Room} {s : State} {m : MethodId} {args : Array Value} {below : List Frame} {meth : Method} {c : Code} {H : Heap} {locs : List Loc} {Q : State → Prop} {cc : ByteArray} {pc nL : Nat} {ls : Array Slot} {rest : List Value} {k : Zxk} {u : Zxs} {H0 : Heap}
set_option maxHeartbeats 4000000 in
set_option maxRecDepth 100000 in
theorem zxK_increase (C : ZxC p s m args c cc nL k) (hP : ZxP k u H) (hS : va_S (ZxA k) H0 H locs) (hsz : ls.size = nL) (hR : 1 + 1 ≤ R.frames ∧ 8 + (2 + 11) + 40 * 1 ≤ R.locals) (hw : (rest.map fun v => v.category).sum ≤ 8) (hdg : decode cc pc = .ok (.invokevirtual 114, 3)) (kk : ∀ (u1 : Zxs) (H1 : Heap) (locs1 : List Loc), u1 = zx_increase u  → ZxP k u1 H1 → va_S (ZxA k) H0 H1 locs1 → W p l e R s m args below meth c H1 locs1 0 0 Q (F0 m (pc + 3) ls (rest))) : W p l e R s m args below meth c H locs 0 0 Q (F0 m pc ls (.ref (zxa_this k) :: rest)) :=
  zx_callV (y := yX0_increase) (n := 0) (As := []) C (zxM_increase l k C.2.2 u  ) wsX0_step_c_increase wsX0_step_l_increase wsX0_step_i_increase wsX0_step_v_increase rfl (by decide +kernel) hP hS hsz hR hw rfl hdg (fun H1 locs1 hP1 hS1 => kk _ H1 locs1 rfl hP1 hS1)
end
def zx_enter (u : Zxs) : Zxs :=
  if (zx_areBytes (zxg_pc u) 3) = 0 then (
    let u19 := zx_fault u
    u19)
  else (
    if (zx_isWord ((zxg_cpp u) + (zx_unsignedPair u ((zxg_pc u) + 1)))) = 0 then (
      let u3 := zx_fault u
      u3)
    else (
      if (zx_areBytes (zxg_words u ((zxg_cpp u) + (zx_unsignedPair u ((zxg_pc u) + 1))).toNatClampNeg) 4) = 0 then (
        let u18 := zx_fault u
        u18)
      else (
        if (zx_isWord (((zxg_sp u) - (zx_unsignedPair u (zxg_words u ((zxg_cpp u) + (zx_unsignedPair u ((zxg_pc u) + 1))).toNatClampNeg))) + 1)) = 0 then (
          let u6 := zx_fault u
          u6)
        else (
          if (zx_isWord (((zxg_sp u) + (zx_unsignedPair u ((zxg_words u ((zxg_cpp u) + (zx_unsignedPair u ((zxg_pc u) + 1))).toNatClampNeg) + 2))) + 1)) = 0 then (
            let u8 := zx_fault u
            u8)
          else (
            if (zx_isWord ((((zxg_sp u) + (zx_unsignedPair u ((zxg_words u ((zxg_cpp u) + (zx_unsignedPair u ((zxg_pc u) + 1))).toNatClampNeg) + 2))) + 1) + 1)) = 0 then (
              let u17 := zx_fault u
              u17)
            else (
              let u10 := zxs_words u (upd (zxg_words u) (((zxg_sp u) - (zx_unsignedPair u (zxg_words u ((zxg_cpp u) + (zx_unsignedPair u ((zxg_pc u) + 1))).toNatClampNeg))) + 1).toNatClampNeg (((zxg_sp u) + (zx_unsignedPair u ((zxg_words u ((zxg_cpp u) + (zx_unsignedPair u ((zxg_pc u) + 1))).toNatClampNeg) + 2))) + 1))
              let u11 := zxs_words u10 (upd (zxg_words u10) (((zxg_sp u) + (zx_unsignedPair u ((zxg_words u ((zxg_cpp u) + (zx_unsignedPair u ((zxg_pc u) + 1))).toNatClampNeg) + 2))) + 1).toNatClampNeg ((zxg_pc u10) + 3))
              let u12 := zxs_words u11 (upd (zxg_words u11) ((((zxg_sp u) + (zx_unsignedPair u ((zxg_words u ((zxg_cpp u) + (zx_unsignedPair u ((zxg_pc u) + 1))).toNatClampNeg) + 2))) + 1) + 1).toNatClampNeg (zxg_lv u11))
              let u13 := zxs_sp u12 ((((zxg_sp u) + (zx_unsignedPair u ((zxg_words u ((zxg_cpp u) + (zx_unsignedPair u ((zxg_pc u) + 1))).toNatClampNeg) + 2))) + 1) + 1)
              let u14 := zxs_lv u13 (((zxg_sp u) - (zx_unsignedPair u (zxg_words u ((zxg_cpp u) + (zx_unsignedPair u ((zxg_pc u) + 1))).toNatClampNeg))) + 1)
              let u15 := zxs_top u14 (((zxg_sp u) - (zx_unsignedPair u (zxg_words u ((zxg_cpp u) + (zx_unsignedPair u ((zxg_pc u) + 1))).toNatClampNeg))) + 1)
              let u16 := zx_finish u15 ((zxg_words u ((zxg_cpp u) + (zx_unsignedPair u ((zxg_pc u) + 1))).toNatClampNeg) + 4) 23
              u16))))))
set_option maxHeartbeats 4000000 in
set_option maxRecDepth 100000 in
theorem zxM_enter (l : Launch) (k : Zxk) (Dk : ZxD k) (u : Zxs) : Met l yX0_enter (.code yX0_enter cX0_enter 5 none :: wsX0_step) (zrm 2) (ZxB k [.ref (zxa_this k)] u) (ZxQ k none (zx_enter u )) 0 0 (ZxA k) := by
  refine zx_enter (by decide) rfl (Nat.le_of_ble_eq_true rfl) Dk ?_
  intro p e s m below meth c ls C hr hlk hP hl
  have hx := C.1.1
  have hb := C.1.2.1
  have hl : lv_has ls 5 [(0, .ref (zxa_this k))] := hl
  have hS : va_S (ZxA k) s.heap s.heap [] := va_S.rf
  refine lv_aload_n hx hb dX0_enter_0 rfl (lv_at hl 0 rfl) ?_
  refine zxG_pc C hP dX0_enter_1 ?_
  refine lv_iconst (v := 3) hx hb dX0_enter_4 (by decide) ?_
  refine zxK_areBytes C hl.1 (by decide) (Nat.le_of_ble_eq_true rfl) dX0_enter_5 ?_
  refine lv_if_ne (tgt := 16) hx hb dX0_enter_8 (by decide) (fun c1 => ?_) (fun c1 => ?_)
  · refine lv_aload_n hx hb dX0_enter_16 rfl (lv_at hl 0 rfl) ?_
    refine zxG_cpp C hP dX0_enter_17 ?_
    refine lv_aload_n hx hb dX0_enter_20 rfl (lv_at hl 0 rfl) ?_
    refine lv_aload_n hx hb dX0_enter_21 rfl (lv_at hl 0 rfl) ?_
    refine zxG_pc C hP dX0_enter_22 ?_
    refine lv_iconst (v := 1) hx hb dX0_enter_25 (by decide) ?_
    refine lv_iadd hx hb dX0_enter_26 ?_
    refine zxK_unsignedPair C hP hl.1 (by decide) (Nat.le_of_ble_eq_true rfl) (by first | assumption | exact zx_in (by assumption) | exact zx_b10 (by assumption) | exact zx_b21 (by assumption) | exact zx_b31 (by assumption) | exact zx_b32 (by assumption) | exact zx_b42 (by assumption) | exact zx_b43 (by assumption) | exact zx_b33 (by assumption) | exact zx_b40 (by assumption) | exact zx_b41 (by assumption)) (by first | assumption | exact zx_in (by assumption) | exact zx_b10 (by assumption) | exact zx_b21 (by assumption) | exact zx_b31 (by assumption) | exact zx_b32 (by assumption) | exact zx_b42 (by assumption) | exact zx_b43 (by assumption) | exact zx_b33 (by assumption) | exact zx_b40 (by assumption) | exact zx_b41 (by assumption)) dX0_enter_27 ?_
    refine lv_iadd hx hb dX0_enter_30 ?_
    refine lv_istore_n (lv' := [(1, .int ((zxg_cpp u) + (zx_unsignedPair u ((zxg_pc u) + 1)))), (0, .ref (zxa_this k))]) hx hb dX0_enter_31 rfl hl (by decide) rfl (fun ls hl => ?_)
    refine lv_iload_n hx hb dX0_enter_32 rfl (lv_at hl 0 rfl) ?_
    refine zxK_isWord C hl.1 (by decide) (Nat.le_of_ble_eq_true rfl) dX0_enter_33 ?_
    refine lv_if_eq (tgt := 52) hx hb dX0_enter_36 (by decide) (fun c2 => ?_) (fun c2 => ?_)
    · refine lv_aload_n hx hb dX0_enter_52 rfl (lv_at hl 1 rfl) ?_
      refine zxK_fault C hP hS hl.1 (by decide) (Nat.le_of_ble_eq_true rfl) dX0_enter_53 (fun u3 H locs hu3 hP hS => ?_)
      exact zx_vret C hr hlk hP hS (by subst hu3; exact (if_neg c1).trans ((if_pos c2).trans (rfl))) dX0_enter_56
    · refine lv_aload_n hx hb dX0_enter_39 rfl (lv_at hl 1 rfl) ?_
      refine zxG_words C hP dX0_enter_40 ?_
      refine lv_iload_n hx hb dX0_enter_43 rfl (lv_at hl 0 rfl) ?_
      refine zxL_words C hP (by first | assumption | exact zx_in (by assumption) | exact zx_b10 (by assumption) | exact zx_b21 (by assumption) | exact zx_b31 (by assumption) | exact zx_b32 (by assumption) | exact zx_b42 (by assumption) | exact zx_b43 (by assumption) | exact zx_b33 (by assumption) | exact zx_b40 (by assumption) | exact zx_b41 (by assumption)) dX0_enter_44 ?_
      refine lv_iconst (v := 4) hx hb dX0_enter_45 (by decide) ?_
      refine zxK_areBytes C hl.1 (by decide) (Nat.le_of_ble_eq_true rfl) dX0_enter_46 ?_
      refine lv_if_ne (tgt := 57) hx hb dX0_enter_49 (by decide) (fun c4 => ?_) (fun c4 => ?_)
      · refine lv_aload_n hx hb dX0_enter_57 rfl (lv_at hl 1 rfl) ?_
        refine zxG_words C hP dX0_enter_58 ?_
        refine lv_iload_n hx hb dX0_enter_61 rfl (lv_at hl 0 rfl) ?_
        refine zxL_words C hP (by first | assumption | exact zx_in (by assumption) | exact zx_b10 (by assumption) | exact zx_b21 (by assumption) | exact zx_b31 (by assumption) | exact zx_b32 (by assumption) | exact zx_b42 (by assumption) | exact zx_b43 (by assumption) | exact zx_b33 (by assumption) | exact zx_b40 (by assumption) | exact zx_b41 (by assumption)) dX0_enter_62 ?_
        refine lv_istore_n (lv' := [(2, .int (zxg_words u ((zxg_cpp u) + (zx_unsignedPair u ((zxg_pc u) + 1))).toNatClampNeg)), (1, .int ((zxg_cpp u) + (zx_unsignedPair u ((zxg_pc u) + 1)))), (0, .ref (zxa_this k))]) hx hb dX0_enter_63 rfl hl (by decide) rfl (fun ls hl => ?_)
        refine lv_aload_n hx hb dX0_enter_64 rfl (lv_at hl 2 rfl) ?_
        refine zxG_sp C hP dX0_enter_65 ?_
        refine lv_aload_n hx hb dX0_enter_68 rfl (lv_at hl 2 rfl) ?_
        refine lv_iload_n hx hb dX0_enter_69 rfl (lv_at hl 0 rfl) ?_
        refine zxK_unsignedPair C hP hl.1 (by decide) (Nat.le_of_ble_eq_true rfl) (by first | assumption | exact zx_in (by assumption) | exact zx_b10 (by assumption) | exact zx_b21 (by assumption) | exact zx_b31 (by assumption) | exact zx_b32 (by assumption) | exact zx_b42 (by assumption) | exact zx_b43 (by assumption) | exact zx_b33 (by assumption) | exact zx_b40 (by assumption) | exact zx_b41 (by assumption)) (by first | assumption | exact zx_in (by assumption) | exact zx_b10 (by assumption) | exact zx_b21 (by assumption) | exact zx_b31 (by assumption) | exact zx_b32 (by assumption) | exact zx_b42 (by assumption) | exact zx_b43 (by assumption) | exact zx_b33 (by assumption) | exact zx_b40 (by assumption) | exact zx_b41 (by assumption)) dX0_enter_70 ?_
        refine lv_isub hx hb dX0_enter_73 ?_
        refine lv_iconst (v := 1) hx hb dX0_enter_74 (by decide) ?_
        refine lv_iadd hx hb dX0_enter_75 ?_
        refine lv_istore_n (lv' := [(3, .int (((zxg_sp u) - (zx_unsignedPair u (zxg_words u ((zxg_cpp u) + (zx_unsignedPair u ((zxg_pc u) + 1))).toNatClampNeg))) + 1)), (2, .int (zxg_words u ((zxg_cpp u) + (zx_unsignedPair u ((zxg_pc u) + 1))).toNatClampNeg)), (1, .int ((zxg_cpp u) + (zx_unsignedPair u ((zxg_pc u) + 1)))), (0, .ref (zxa_this k))]) hx hb dX0_enter_76 rfl hl (by decide) rfl (fun ls hl => ?_)
        refine lv_aload_n hx hb dX0_enter_77 rfl (lv_at hl 3 rfl) ?_
        refine zxG_sp C hP dX0_enter_78 ?_
        refine lv_aload_n hx hb dX0_enter_81 rfl (lv_at hl 3 rfl) ?_
        refine lv_iload_n hx hb dX0_enter_82 rfl (lv_at hl 1 rfl) ?_
        refine lv_iconst (v := 2) hx hb dX0_enter_83 (by decide) ?_
        refine lv_iadd hx hb dX0_enter_84 ?_
        refine zxK_unsignedPair C hP hl.1 (by decide) (Nat.le_of_ble_eq_true rfl) (by first | assumption | exact zx_in (by assumption) | exact zx_b10 (by assumption) | exact zx_b21 (by assumption) | exact zx_b31 (by assumption) | exact zx_b32 (by assumption) | exact zx_b42 (by assumption) | exact zx_b43 (by assumption) | exact zx_b33 (by assumption) | exact zx_b40 (by assumption) | exact zx_b41 (by assumption)) (by first | assumption | exact zx_in (by assumption) | exact zx_b10 (by assumption) | exact zx_b21 (by assumption) | exact zx_b31 (by assumption) | exact zx_b32 (by assumption) | exact zx_b42 (by assumption) | exact zx_b43 (by assumption) | exact zx_b33 (by assumption) | exact zx_b40 (by assumption) | exact zx_b41 (by assumption)) dX0_enter_85 ?_
        refine lv_iadd hx hb dX0_enter_88 ?_
        refine lv_iconst (v := 1) hx hb dX0_enter_89 (by decide) ?_
        refine lv_iadd hx hb dX0_enter_90 ?_
        refine lv_istore (lv' := [(4, .int (((zxg_sp u) + (zx_unsignedPair u ((zxg_words u ((zxg_cpp u) + (zx_unsignedPair u ((zxg_pc u) + 1))).toNatClampNeg) + 2))) + 1)), (3, .int (((zxg_sp u) - (zx_unsignedPair u (zxg_words u ((zxg_cpp u) + (zx_unsignedPair u ((zxg_pc u) + 1))).toNatClampNeg))) + 1)), (2, .int (zxg_words u ((zxg_cpp u) + (zx_unsignedPair u ((zxg_pc u) + 1))).toNatClampNeg)), (1, .int ((zxg_cpp u) + (zx_unsignedPair u ((zxg_pc u) + 1)))), (0, .ref (zxa_this k))]) hx hb dX0_enter_91 hl (by decide) rfl (fun ls hl => ?_)
        refine lv_iload_n hx hb dX0_enter_93 rfl (lv_at hl 1 rfl) ?_
        refine zxK_isWord C hl.1 (by decide) (Nat.le_of_ble_eq_true rfl) dX0_enter_94 ?_
        refine lv_if_eq (tgt := 118) hx hb dX0_enter_97 (by decide) (fun c5 => ?_) (fun c5 => ?_)
        · refine lv_aload_n hx hb dX0_enter_118 rfl (lv_at hl 4 rfl) ?_
          refine zxK_fault C hP hS hl.1 (by decide) (Nat.le_of_ble_eq_true rfl) dX0_enter_119 (fun u6 H locs hu6 hP hS => ?_)
          exact zx_vret C hr hlk hP hS (by subst hu6; exact (if_neg c1).trans ((if_neg c2).trans ((if_neg c4).trans ((if_pos c5).trans (rfl))))) dX0_enter_122
        · refine lv_iload hx hb dX0_enter_100 (lv_at hl 0 rfl) ?_
          refine zxK_isWord C hl.1 (by decide) (Nat.le_of_ble_eq_true rfl) dX0_enter_102 ?_
          refine lv_if_eq (tgt := 118) hx hb dX0_enter_105 (by decide) (fun c7 => ?_) (fun c7 => ?_)
          · refine lv_aload_n hx hb dX0_enter_118 rfl (lv_at hl 4 rfl) ?_
            refine zxK_fault C hP hS hl.1 (by decide) (Nat.le_of_ble_eq_true rfl) dX0_enter_119 (fun u8 H locs hu8 hP hS => ?_)
            exact zx_vret C hr hlk hP hS (by subst hu8; exact (if_neg c1).trans ((if_neg c2).trans ((if_neg c4).trans ((if_neg c5).trans ((if_pos c7).trans (rfl)))))) dX0_enter_122
          · refine lv_iload hx hb dX0_enter_108 (lv_at hl 0 rfl) ?_
            refine lv_iconst (v := 1) hx hb dX0_enter_110 (by decide) ?_
            refine lv_iadd hx hb dX0_enter_111 ?_
            refine zxK_isWord C hl.1 (by decide) (Nat.le_of_ble_eq_true rfl) dX0_enter_112 ?_
            refine lv_if_ne (tgt := 123) hx hb dX0_enter_115 (by decide) (fun c9 => ?_) (fun c9 => ?_)
            · refine lv_aload_n hx hb dX0_enter_123 rfl (lv_at hl 4 rfl) ?_
              refine zxG_words C hP dX0_enter_124 ?_
              refine lv_iload_n hx hb dX0_enter_127 rfl (lv_at hl 1 rfl) ?_
              refine lv_iload hx hb dX0_enter_128 (lv_at hl 0 rfl) ?_
              refine zxS_words C hP hS (by first | assumption | exact zx_in (by assumption) | exact zx_b10 (by assumption) | exact zx_b21 (by assumption) | exact zx_b31 (by assumption) | exact zx_b32 (by assumption) | exact zx_b42 (by assumption) | exact zx_b43 (by assumption) | exact zx_b33 (by assumption) | exact zx_b40 (by assumption) | exact zx_b41 (by assumption)) dX0_enter_130 (fun u10 H locs hu10 hP hS => ?_)
              refine lv_aload_n hx hb dX0_enter_131 rfl (lv_at hl 4 rfl) ?_
              refine zxG_words C hP dX0_enter_132 ?_
              refine lv_iload hx hb dX0_enter_135 (lv_at hl 0 rfl) ?_
              refine lv_aload_n hx hb dX0_enter_137 rfl (lv_at hl 4 rfl) ?_
              refine zxG_pc C hP dX0_enter_138 ?_
              refine lv_iconst (v := 3) hx hb dX0_enter_141 (by decide) ?_
              refine lv_iadd hx hb dX0_enter_142 ?_
              refine zxS_words C hP hS (by first | assumption | exact zx_in (by assumption) | exact zx_b10 (by assumption) | exact zx_b21 (by assumption) | exact zx_b31 (by assumption) | exact zx_b32 (by assumption) | exact zx_b42 (by assumption) | exact zx_b43 (by assumption) | exact zx_b33 (by assumption) | exact zx_b40 (by assumption) | exact zx_b41 (by assumption)) dX0_enter_143 (fun u11 H locs hu11 hP hS => ?_)
              refine lv_aload_n hx hb dX0_enter_144 rfl (lv_at hl 4 rfl) ?_
              refine zxG_words C hP dX0_enter_145 ?_
              refine lv_iload hx hb dX0_enter_148 (lv_at hl 0 rfl) ?_
              refine lv_iconst (v := 1) hx hb dX0_enter_150 (by decide) ?_
              refine lv_iadd hx hb dX0_enter_151 ?_
              refine lv_aload_n hx hb dX0_enter_152 rfl (lv_at hl 4 rfl) ?_
              refine zxG_lv C hP dX0_enter_153 ?_
              refine zxS_words C hP hS (by first | assumption | exact zx_in (by assumption) | exact zx_b10 (by assumption) | exact zx_b21 (by assumption) | exact zx_b31 (by assumption) | exact zx_b32 (by assumption) | exact zx_b42 (by assumption) | exact zx_b43 (by assumption) | exact zx_b33 (by assumption) | exact zx_b40 (by assumption) | exact zx_b41 (by assumption)) dX0_enter_156 (fun u12 H locs hu12 hP hS => ?_)
              refine lv_aload_n hx hb dX0_enter_157 rfl (lv_at hl 4 rfl) ?_
              refine lv_iload hx hb dX0_enter_158 (lv_at hl 0 rfl) ?_
              refine lv_iconst (v := 1) hx hb dX0_enter_160 (by decide) ?_
              refine lv_iadd hx hb dX0_enter_161 ?_
              refine zxP_sp C hP hS dX0_enter_162 (fun u13 H locs hu13 hP hS => ?_)
              refine lv_aload_n hx hb dX0_enter_165 rfl (lv_at hl 4 rfl) ?_
              refine lv_iload_n hx hb dX0_enter_166 rfl (lv_at hl 1 rfl) ?_
              refine zxP_lv C hP hS dX0_enter_167 (fun u14 H locs hu14 hP hS => ?_)
              refine lv_aload_n hx hb dX0_enter_170 rfl (lv_at hl 4 rfl) ?_
              refine lv_iload_n hx hb dX0_enter_171 rfl (lv_at hl 1 rfl) ?_
              refine zxP_top C hP hS dX0_enter_172 (fun u15 H locs hu15 hP hS => ?_)
              refine lv_aload_n hx hb dX0_enter_175 rfl (lv_at hl 4 rfl) ?_
              refine lv_iload_n hx hb dX0_enter_176 rfl (lv_at hl 2 rfl) ?_
              refine lv_iconst (v := 4) hx hb dX0_enter_177 (by decide) ?_
              refine lv_iadd hx hb dX0_enter_178 ?_
              refine lv_bipush (v := 23) hx hb dX0_enter_179 (by decide) ?_
              refine zxK_finish C hP hS hl.1 (by decide) (Nat.le_of_ble_eq_true rfl) dX0_enter_181 (fun u16 H locs hu16 hP hS => ?_)
              exact zx_vret C hr hlk hP hS (by subst hu10 hu11 hu12 hu13 hu14 hu15 hu16; exact (if_neg c1).trans ((if_neg c2).trans ((if_neg c4).trans ((if_neg c5).trans ((if_neg c7).trans ((if_neg c9).trans (rfl))))))) dX0_enter_184
            · refine lv_aload_n hx hb dX0_enter_118 rfl (lv_at hl 4 rfl) ?_
              refine zxK_fault C hP hS hl.1 (by decide) (Nat.le_of_ble_eq_true rfl) dX0_enter_119 (fun u17 H locs hu17 hP hS => ?_)
              exact zx_vret C hr hlk hP hS (by subst hu17; exact (if_neg c1).trans ((if_neg c2).trans ((if_neg c4).trans ((if_neg c5).trans ((if_neg c7).trans ((if_pos c9).trans (rfl))))))) dX0_enter_122
      · refine lv_aload_n hx hb dX0_enter_52 rfl (lv_at hl 1 rfl) ?_
        refine zxK_fault C hP hS hl.1 (by decide) (Nat.le_of_ble_eq_true rfl) dX0_enter_53 (fun u18 H locs hu18 hP hS => ?_)
        exact zx_vret C hr hlk hP hS (by subst hu18; exact (if_neg c1).trans ((if_neg c2).trans ((if_pos c4).trans (rfl)))) dX0_enter_56
  · refine lv_aload_n hx hb dX0_enter_11 rfl (lv_at hl 0 rfl) ?_
    refine zxK_fault C hP hS hl.1 (by decide) (Nat.le_of_ble_eq_true rfl) dX0_enter_12 (fun u19 H locs hu19 hP hS => ?_)
    exact zx_vret C hr hlk hP hS (by subst hu19; exact (if_pos c1).trans (rfl)) dX0_enter_15
section
variable {p : Program} {l : Launch} {e : Env} {R : Room} {s : State} {m : MethodId} {args : Array Value} {below : List Frame} {meth : Method} {c : Code} {H : Heap} {locs : List Loc} {Q : State → Prop} {cc : ByteArray} {pc nL : Nat} {ls : Array Slot} {rest : List Value} {k : Zxk} {u : Zxs} {H0 : Heap}
set_option maxHeartbeats 4000000 in
set_option maxRecDepth 100000 in
theorem zxK_enter (C : ZxC p s m args c cc nL k) (hP : ZxP k u H) (hS : va_S (ZxA k) H0 H locs) (hsz : ls.size = nL) (hR : 2 + 1 ≤ R.frames ∧ 8 + (5 + 11) + 40 * 2 ≤ R.locals) (hw : (rest.map fun v => v.category).sum ≤ 8) (hdg : decode cc pc = .ok (.invokevirtual 127, 3)) (kk : ∀ (u1 : Zxs) (H1 : Heap) (locs1 : List Loc), u1 = zx_enter u  → ZxP k u1 H1 → va_S (ZxA k) H0 H1 locs1 → W p l e R s m args below meth c H1 locs1 0 0 Q (F0 m (pc + 3) ls (rest))) : W p l e R s m args below meth c H locs 0 0 Q (F0 m pc ls (.ref (zxa_this k) :: rest)) :=
  zx_callV (y := yX0_enter) (n := 0) (As := []) C (zxM_enter l k C.2.2 u  ) wsX0_step_c_enter wsX0_step_l_enter wsX0_step_i_enter wsX0_step_v_enter rfl (by decide +kernel) hP hS hsz hR hw rfl hdg (fun H1 locs1 hP1 hS1 => kk _ H1 locs1 rfl hP1 hS1)
end
def zx_leave (u : Zxs) : Zxs :=
  if (zx_isWord (zxg_lv u)) = 0 then (
    let u10 := zx_fault u
    u10)
  else (
    if (zx_isWord (zxg_words u (zxg_lv u).toNatClampNeg)) = 0 then (
      let u3 := zx_fault u
      u3)
    else (
      if (zx_isWord ((zxg_words u (zxg_lv u).toNatClampNeg) + 1)) = 0 then (
        let u9 := zx_fault u
        u9)
      else (
        let u5 := zxs_words u (upd (zxg_words u) (zxg_lv u).toNatClampNeg (zxg_top u))
        let u6 := zxs_sp u5 (zxg_lv u5)
        let u7 := zxs_lv u6 (zxg_words u ((zxg_words u (zxg_lv u).toNatClampNeg) + 1).toNatClampNeg)
        let u8 := zx_finish u7 (zxg_words u (zxg_words u (zxg_lv u).toNatClampNeg).toNatClampNeg) 9
        u8)))
set_option maxHeartbeats 4000000 in
set_option maxRecDepth 100000 in
theorem zxM_leave (l : Launch) (k : Zxk) (Dk : ZxD k) (u : Zxs) : Met l yX0_leave (.code yX0_leave cX0_leave 4 none :: wsX0_step) (zrm 1) (ZxB k [.ref (zxa_this k)] u) (ZxQ k none (zx_leave u )) 0 0 (ZxA k) := by
  refine zx_enter (by decide) rfl (Nat.le_of_ble_eq_true rfl) Dk ?_
  intro p e s m below meth c ls C hr hlk hP hl
  have hx := C.1.1
  have hb := C.1.2.1
  have hl : lv_has ls 4 [(0, .ref (zxa_this k))] := hl
  have hS : va_S (ZxA k) s.heap s.heap [] := va_S.rf
  refine lv_aload_n hx hb dX0_leave_0 rfl (lv_at hl 0 rfl) ?_
  refine zxG_lv C hP dX0_leave_1 ?_
  refine zxK_isWord C hl.1 (by decide) (Nat.le_of_ble_eq_true rfl) dX0_leave_4 ?_
  refine lv_if_ne (tgt := 15) hx hb dX0_leave_7 (by decide) (fun c1 => ?_) (fun c1 => ?_)
  · refine lv_aload_n hx hb dX0_leave_15 rfl (lv_at hl 0 rfl) ?_
    refine zxG_words C hP dX0_leave_16 ?_
    refine lv_aload_n hx hb dX0_leave_19 rfl (lv_at hl 0 rfl) ?_
    refine zxG_lv C hP dX0_leave_20 ?_
    refine zxL_words C hP (by first | assumption | exact zx_in (by assumption) | exact zx_b10 (by assumption) | exact zx_b21 (by assumption) | exact zx_b31 (by assumption) | exact zx_b32 (by assumption) | exact zx_b42 (by assumption) | exact zx_b43 (by assumption) | exact zx_b33 (by assumption) | exact zx_b40 (by assumption) | exact zx_b41 (by assumption)) dX0_leave_23 ?_
    refine lv_istore_n (lv' := [(1, .int (zxg_words u (zxg_lv u).toNatClampNeg)), (0, .ref (zxa_this k))]) hx hb dX0_leave_24 rfl hl (by decide) rfl (fun ls hl => ?_)
    refine lv_iload_n hx hb dX0_leave_25 rfl (lv_at hl 0 rfl) ?_
    refine zxK_isWord C hl.1 (by decide) (Nat.le_of_ble_eq_true rfl) dX0_leave_26 ?_
    refine lv_if_eq (tgt := 41) hx hb dX0_leave_29 (by decide) (fun c2 => ?_) (fun c2 => ?_)
    · refine lv_aload_n hx hb dX0_leave_41 rfl (lv_at hl 1 rfl) ?_
      refine zxK_fault C hP hS hl.1 (by decide) (Nat.le_of_ble_eq_true rfl) dX0_leave_42 (fun u3 H locs hu3 hP hS => ?_)
      exact zx_vret C hr hlk hP hS (by subst hu3; exact (if_neg c1).trans ((if_pos c2).trans (rfl))) dX0_leave_45
    · refine lv_iload_n hx hb dX0_leave_32 rfl (lv_at hl 0 rfl) ?_
      refine lv_iconst (v := 1) hx hb dX0_leave_33 (by decide) ?_
      refine lv_iadd hx hb dX0_leave_34 ?_
      refine zxK_isWord C hl.1 (by decide) (Nat.le_of_ble_eq_true rfl) dX0_leave_35 ?_
      refine lv_if_ne (tgt := 46) hx hb dX0_leave_38 (by decide) (fun c4 => ?_) (fun c4 => ?_)
      · refine lv_aload_n hx hb dX0_leave_46 rfl (lv_at hl 1 rfl) ?_
        refine zxG_words C hP dX0_leave_47 ?_
        refine lv_iload_n hx hb dX0_leave_50 rfl (lv_at hl 0 rfl) ?_
        refine zxL_words C hP (by first | assumption | exact zx_in (by assumption) | exact zx_b10 (by assumption) | exact zx_b21 (by assumption) | exact zx_b31 (by assumption) | exact zx_b32 (by assumption) | exact zx_b42 (by assumption) | exact zx_b43 (by assumption) | exact zx_b33 (by assumption) | exact zx_b40 (by assumption) | exact zx_b41 (by assumption)) dX0_leave_51 ?_
        refine lv_istore_n (lv' := [(2, .int (zxg_words u (zxg_words u (zxg_lv u).toNatClampNeg).toNatClampNeg)), (1, .int (zxg_words u (zxg_lv u).toNatClampNeg)), (0, .ref (zxa_this k))]) hx hb dX0_leave_52 rfl hl (by decide) rfl (fun ls hl => ?_)
        refine lv_aload_n hx hb dX0_leave_53 rfl (lv_at hl 2 rfl) ?_
        refine zxG_words C hP dX0_leave_54 ?_
        refine lv_iload_n hx hb dX0_leave_57 rfl (lv_at hl 1 rfl) ?_
        refine lv_iconst (v := 1) hx hb dX0_leave_58 (by decide) ?_
        refine lv_iadd hx hb dX0_leave_59 ?_
        refine zxL_words C hP (by first | assumption | exact zx_in (by assumption) | exact zx_b10 (by assumption) | exact zx_b21 (by assumption) | exact zx_b31 (by assumption) | exact zx_b32 (by assumption) | exact zx_b42 (by assumption) | exact zx_b43 (by assumption) | exact zx_b33 (by assumption) | exact zx_b40 (by assumption) | exact zx_b41 (by assumption)) dX0_leave_60 ?_
        refine lv_istore_n (lv' := [(3, .int (zxg_words u ((zxg_words u (zxg_lv u).toNatClampNeg) + 1).toNatClampNeg)), (2, .int (zxg_words u (zxg_words u (zxg_lv u).toNatClampNeg).toNatClampNeg)), (1, .int (zxg_words u (zxg_lv u).toNatClampNeg)), (0, .ref (zxa_this k))]) hx hb dX0_leave_61 rfl hl (by decide) rfl (fun ls hl => ?_)
        refine lv_aload_n hx hb dX0_leave_62 rfl (lv_at hl 3 rfl) ?_
        refine zxG_words C hP dX0_leave_63 ?_
        refine lv_aload_n hx hb dX0_leave_66 rfl (lv_at hl 3 rfl) ?_
        refine zxG_lv C hP dX0_leave_67 ?_
        refine lv_aload_n hx hb dX0_leave_70 rfl (lv_at hl 3 rfl) ?_
        refine zxG_top C hP dX0_leave_71 ?_
        refine zxS_words C hP hS (by first | assumption | exact zx_in (by assumption) | exact zx_b10 (by assumption) | exact zx_b21 (by assumption) | exact zx_b31 (by assumption) | exact zx_b32 (by assumption) | exact zx_b42 (by assumption) | exact zx_b43 (by assumption) | exact zx_b33 (by assumption) | exact zx_b40 (by assumption) | exact zx_b41 (by assumption)) dX0_leave_74 (fun u5 H locs hu5 hP hS => ?_)
        refine lv_aload_n hx hb dX0_leave_75 rfl (lv_at hl 3 rfl) ?_
        refine lv_aload_n hx hb dX0_leave_76 rfl (lv_at hl 3 rfl) ?_
        refine zxG_lv C hP dX0_leave_77 ?_
        refine zxP_sp C hP hS dX0_leave_80 (fun u6 H locs hu6 hP hS => ?_)
        refine lv_aload_n hx hb dX0_leave_83 rfl (lv_at hl 3 rfl) ?_
        refine lv_iload_n hx hb dX0_leave_84 rfl (lv_at hl 0 rfl) ?_
        refine zxP_lv C hP hS dX0_leave_85 (fun u7 H locs hu7 hP hS => ?_)
        refine lv_aload_n hx hb dX0_leave_88 rfl (lv_at hl 3 rfl) ?_
        refine lv_iload_n hx hb dX0_leave_89 rfl (lv_at hl 1 rfl) ?_
        refine lv_bipush (v := 9) hx hb dX0_leave_90 (by decide) ?_
        refine zxK_finish C hP hS hl.1 (by decide) (Nat.le_of_ble_eq_true rfl) dX0_leave_92 (fun u8 H locs hu8 hP hS => ?_)
        exact zx_vret C hr hlk hP hS (by subst hu5 hu6 hu7 hu8; exact (if_neg c1).trans ((if_neg c2).trans ((if_neg c4).trans (rfl)))) dX0_leave_95
      · refine lv_aload_n hx hb dX0_leave_41 rfl (lv_at hl 1 rfl) ?_
        refine zxK_fault C hP hS hl.1 (by decide) (Nat.le_of_ble_eq_true rfl) dX0_leave_42 (fun u9 H locs hu9 hP hS => ?_)
        exact zx_vret C hr hlk hP hS (by subst hu9; exact (if_neg c1).trans ((if_neg c2).trans ((if_pos c4).trans (rfl)))) dX0_leave_45
  · refine lv_aload_n hx hb dX0_leave_10 rfl (lv_at hl 0 rfl) ?_
    refine zxK_fault C hP hS hl.1 (by decide) (Nat.le_of_ble_eq_true rfl) dX0_leave_11 (fun u10 H locs hu10 hP hS => ?_)
    exact zx_vret C hr hlk hP hS (by subst hu10; exact (if_pos c1).trans (rfl)) dX0_leave_14
section
variable {p : Program} {l : Launch} {e : Env} {R : Room} {s : State} {m : MethodId} {args : Array Value} {below : List Frame} {meth : Method} {c : Code} {H : Heap} {locs : List Loc} {Q : State → Prop} {cc : ByteArray} {pc nL : Nat} {ls : Array Slot} {rest : List Value} {k : Zxk} {u : Zxs} {H0 : Heap}
set_option maxHeartbeats 4000000 in
set_option maxRecDepth 100000 in
theorem zxK_leave (C : ZxC p s m args c cc nL k) (hP : ZxP k u H) (hS : va_S (ZxA k) H0 H locs) (hsz : ls.size = nL) (hR : 1 + 1 ≤ R.frames ∧ 8 + (4 + 11) + 40 * 1 ≤ R.locals) (hw : (rest.map fun v => v.category).sum ≤ 8) (hdg : decode cc pc = .ok (.invokevirtual 130, 3)) (kk : ∀ (u1 : Zxs) (H1 : Heap) (locs1 : List Loc), u1 = zx_leave u  → ZxP k u1 H1 → va_S (ZxA k) H0 H1 locs1 → W p l e R s m args below meth c H1 locs1 0 0 Q (F0 m (pc + 3) ls (rest))) : W p l e R s m args below meth c H locs 0 0 Q (F0 m pc ls (.ref (zxa_this k) :: rest)) :=
  zx_callV (y := yX0_leave) (n := 0) (As := []) C (zxM_leave l k C.2.2 u  ) wsX0_step_c_leave wsX0_step_l_leave wsX0_step_i_leave wsX0_step_v_leave rfl (by decide +kernel) hP hS hsz hR hw rfl hdg (fun H1 locs1 hP1 hS1 => kk _ H1 locs1 rfl hP1 hS1)
end
def zx_step (u : Zxs) : Zxs :=
  if (zx_areBytes (zxg_pc u) 1) = 0 then (
    let u49 := zx_fault u
    u49)
  else (
    if (zx_unsignedByte u (zxg_pc u)) = 0 then (
      let u3 := zx_finish u ((zxg_pc u) + 1) 2
      u3)
    else (
      if (zx_unsignedByte u (zxg_pc u)) = 16 then (
        let u5 := zx_pushByte u
        u5)
      else (
        if (zx_unsignedByte u (zxg_pc u)) = 19 then (
          let u7 := zx_loadConstant u
          u7)
        else (
          if (zx_unsignedByte u (zxg_pc u)) = 21 then (
            let u9 := zx_loadNarrow u
            u9)
          else (
            if (zx_unsignedByte u (zxg_pc u)) = 54 then (
              let u11 := zx_storeNarrow u
              u11)
            else (
              if (zx_unsignedByte u (zxg_pc u)) = 87 then (
                let u13 := zx_pop u
                u13)
              else (
                if (zx_unsignedByte u (zxg_pc u)) = 89 then (
                  let u15 := zx_push u (zxg_top u) 1 3
                  u15)
                else (
                  if (zx_unsignedByte u (zxg_pc u)) = 95 then (
                    let u17 := zx_swap u
                    u17)
                  else (
                    if (zx_unsignedByte u (zxg_pc u)) = 96 then (
                      let u19 := zx_combine u (zx_unsignedByte u (zxg_pc u))
                      u19)
                    else (
                      if (zx_unsignedByte u (zxg_pc u)) = 100 then (
                        let u21 := zx_combine u (zx_unsignedByte u (zxg_pc u))
                        u21)
                      else (
                        if (zx_unsignedByte u (zxg_pc u)) = 126 then (
                          let u23 := zx_combine u (zx_unsignedByte u (zxg_pc u))
                          u23)
                        else (
                          if (zx_unsignedByte u (zxg_pc u)) = 128 then (
                            let u25 := zx_combine u (zx_unsignedByte u (zxg_pc u))
                            u25)
                          else (
                            if (zx_unsignedByte u (zxg_pc u)) = 132 then (
                              let u27 := zx_increase u
                              u27)
                            else (
                              if (zx_unsignedByte u (zxg_pc u)) = 153 then (
                                if (zxg_top u) = 0 then (
                                  let u31 := zx_jumpOnTop u 1
                                  u31)
                                else (
                                  let u30 := zx_jumpOnTop u 0
                                  u30))
                              else (
                                if (zx_unsignedByte u (zxg_pc u)) = 155 then (
                                  if 0 ≤ (zxg_top u) then (
                                    let u34 := zx_jumpOnTop u 0
                                    u34)
                                  else (
                                    let u35 := zx_jumpOnTop u 1
                                    u35))
                                else (
                                  if (zx_unsignedByte u (zxg_pc u)) = 159 then (
                                    let u37 := zx_jumpOnLike u
                                    u37)
                                  else (
                                    if (zx_unsignedByte u (zxg_pc u)) = 167 then (
                                      let u39 := zx_jump u 7
                                      u39)
                                    else (
                                      if (zx_unsignedByte u (zxg_pc u)) = 172 then (
                                        let u41 := zx_leave u
                                        u41)
                                      else (
                                        if (zx_unsignedByte u (zxg_pc u)) = 182 then (
                                          let u43 := zx_enter u
                                          u43)
                                        else (
                                          if (zx_unsignedByte u (zxg_pc u)) = 196 then (
                                            let u45 := zx_wide u
                                            u45)
                                          else (
                                            if (zx_unsignedByte u (zxg_pc u)) = 255 then (
                                              let u47 := zx_halt u
                                              u47)
                                            else (
                                              let u48 := zx_trap u
                                              u48))))))))))))))))))))))
set_option maxHeartbeats 4000000 in
set_option maxRecDepth 100000 in
theorem zxM_step (l : Launch) (k : Zxk) (Dk : ZxD k) (u : Zxs) : Met l yX0_step (.code yX0_step cX0_step 2 none :: wsX0_step) (zrm 5) (ZxB k [.ref (zxa_this k)] u) (ZxQ k none (zx_step u )) 0 0 (ZxA k) := by
  refine zx_enter (by decide) rfl (Nat.le_of_ble_eq_true rfl) Dk ?_
  intro p e s m below meth c ls C hr hlk hP hl
  have hx := C.1.1
  have hb := C.1.2.1
  have hl : lv_has ls 2 [(0, .ref (zxa_this k))] := hl
  have hS : va_S (ZxA k) s.heap s.heap [] := va_S.rf
  refine lv_aload_n hx hb dX0_step_0 rfl (lv_at hl 0 rfl) ?_
  refine zxG_pc C hP dX0_step_1 ?_
  refine lv_iconst (v := 1) hx hb dX0_step_4 (by decide) ?_
  refine zxK_areBytes C hl.1 (by decide) (Nat.le_of_ble_eq_true rfl) dX0_step_5 ?_
  refine lv_if_ne (tgt := 16) hx hb dX0_step_8 (by decide) (fun c1 => ?_) (fun c1 => ?_)
  · refine lv_aload_n hx hb dX0_step_16 rfl (lv_at hl 0 rfl) ?_
    refine lv_aload_n hx hb dX0_step_17 rfl (lv_at hl 0 rfl) ?_
    refine zxG_pc C hP dX0_step_18 ?_
    refine zxK_unsignedByte C hP hl.1 (by decide) (Nat.le_of_ble_eq_true rfl) (by first | assumption | exact zx_in (by assumption) | exact zx_b10 (by assumption) | exact zx_b21 (by assumption) | exact zx_b31 (by assumption) | exact zx_b32 (by assumption) | exact zx_b42 (by assumption) | exact zx_b43 (by assumption) | exact zx_b33 (by assumption) | exact zx_b40 (by assumption) | exact zx_b41 (by assumption)) dX0_step_21 ?_
    refine lv_istore_n (lv' := [(1, .int (zx_unsignedByte u (zxg_pc u))), (0, .ref (zxa_this k))]) hx hb dX0_step_24 rfl hl (by decide) rfl (fun ls hl => ?_)
    refine lv_iload_n hx hb dX0_step_25 rfl (lv_at hl 0 rfl) ?_
    by_cases c2 : (zx_unsignedByte u (zxg_pc u)) = 0
    · refine lv_lookup (off := 178) (tgt := 204) hx hb dX0_step_26 (by decide) (z_sw c2 (by decide)) (by decide) ?_
      refine lv_aload_n hx hb dX0_step_204 rfl (lv_at hl 1 rfl) ?_
      refine lv_aload_n hx hb dX0_step_205 rfl (lv_at hl 1 rfl) ?_
      refine zxG_pc C hP dX0_step_206 ?_
      refine lv_iconst (v := 1) hx hb dX0_step_209 (by decide) ?_
      refine lv_iadd hx hb dX0_step_210 ?_
      refine lv_iconst (v := 2) hx hb dX0_step_211 (by decide) ?_
      refine zxK_finish C hP hS hl.1 (by decide) (Nat.le_of_ble_eq_true rfl) dX0_step_212 (fun u3 H locs hu3 hP hS => ?_)
      refine lv_goto (tgt := 374) hx hb dX0_step_215 (by decide) ?_
      exact zx_vret C hr hlk hP hS (by subst hu3; exact (if_neg c1).trans ((if_pos c2).trans (rfl))) dX0_step_374
    · skip
      by_cases c4 : (zx_unsignedByte u (zxg_pc u)) = 16
      · refine lv_lookup (off := 227) (tgt := 253) hx hb dX0_step_26 (by decide) (z_sw c4 (by decide)) (by decide) ?_
        refine lv_aload_n hx hb dX0_step_253 rfl (lv_at hl 1 rfl) ?_
        refine zxK_pushByte C hP hS hl.1 (by decide) (Nat.le_of_ble_eq_true rfl) dX0_step_254 (fun u5 H locs hu5 hP hS => ?_)
        refine lv_goto (tgt := 374) hx hb dX0_step_257 (by decide) ?_
        exact zx_vret C hr hlk hP hS (by subst hu5; exact (if_neg c1).trans ((if_neg c2).trans ((if_pos c4).trans (rfl)))) dX0_step_374
      · skip
        by_cases c6 : (zx_unsignedByte u (zxg_pc u)) = 19
        · refine lv_lookup (off := 255) (tgt := 281) hx hb dX0_step_26 (by decide) (z_sw c6 (by decide)) (by decide) ?_
          refine lv_aload_n hx hb dX0_step_281 rfl (lv_at hl 1 rfl) ?_
          refine zxK_loadConstant C hP hS hl.1 (by decide) (Nat.le_of_ble_eq_true rfl) dX0_step_282 (fun u7 H locs hu7 hP hS => ?_)
          refine lv_goto (tgt := 374) hx hb dX0_step_285 (by decide) ?_
          exact zx_vret C hr hlk hP hS (by subst hu7; exact (if_neg c1).trans ((if_neg c2).trans ((if_neg c4).trans ((if_pos c6).trans (rfl))))) dX0_step_374
        · skip
          by_cases c8 : (zx_unsignedByte u (zxg_pc u)) = 21
          · refine lv_lookup (off := 234) (tgt := 260) hx hb dX0_step_26 (by decide) (z_sw c8 (by decide)) (by decide) ?_
            refine lv_aload_n hx hb dX0_step_260 rfl (lv_at hl 1 rfl) ?_
            refine zxK_loadNarrow C hP hS hl.1 (by decide) (Nat.le_of_ble_eq_true rfl) dX0_step_261 (fun u9 H locs hu9 hP hS => ?_)
            refine lv_goto (tgt := 374) hx hb dX0_step_264 (by decide) ?_
            exact zx_vret C hr hlk hP hS (by subst hu9; exact (if_neg c1).trans ((if_neg c2).trans ((if_neg c4).trans ((if_neg c6).trans ((if_pos c8).trans (rfl)))))) dX0_step_374
          · skip
            by_cases c10 : (zx_unsignedByte u (zxg_pc u)) = 54
            · refine lv_lookup (off := 241) (tgt := 267) hx hb dX0_step_26 (by decide) (z_sw c10 (by decide)) (by decide) ?_
              refine lv_aload_n hx hb dX0_step_267 rfl (lv_at hl 1 rfl) ?_
              refine zxK_storeNarrow C hP hS hl.1 (by decide) (Nat.le_of_ble_eq_true rfl) dX0_step_268 (fun u11 H locs hu11 hP hS => ?_)
              refine lv_goto (tgt := 374) hx hb dX0_step_271 (by decide) ?_
              exact zx_vret C hr hlk hP hS (by subst hu11; exact (if_neg c1).trans ((if_neg c2).trans ((if_neg c4).trans ((if_neg c6).trans ((if_neg c8).trans ((if_pos c10).trans (rfl))))))) dX0_step_374
            · skip
              by_cases c12 : (zx_unsignedByte u (zxg_pc u)) = 87
              · refine lv_lookup (off := 213) (tgt := 239) hx hb dX0_step_26 (by decide) (z_sw c12 (by decide)) (by decide) ?_
                refine lv_aload_n hx hb dX0_step_239 rfl (lv_at hl 1 rfl) ?_
                refine zxK_pop C hP hS hl.1 (by decide) (Nat.le_of_ble_eq_true rfl) dX0_step_240 (fun u13 H locs hu13 hP hS => ?_)
                refine lv_goto (tgt := 374) hx hb dX0_step_243 (by decide) ?_
                exact zx_vret C hr hlk hP hS (by subst hu13; exact (if_neg c1).trans ((if_neg c2).trans ((if_neg c4).trans ((if_neg c6).trans ((if_neg c8).trans ((if_neg c10).trans ((if_pos c12).trans (rfl)))))))) dX0_step_374
              · skip
                by_cases c14 : (zx_unsignedByte u (zxg_pc u)) = 89
                · refine lv_lookup (off := 200) (tgt := 226) hx hb dX0_step_26 (by decide) (z_sw c14 (by decide)) (by decide) ?_
                  refine lv_aload_n hx hb dX0_step_226 rfl (lv_at hl 1 rfl) ?_
                  refine lv_aload_n hx hb dX0_step_227 rfl (lv_at hl 1 rfl) ?_
                  refine zxG_top C hP dX0_step_228 ?_
                  refine lv_iconst (v := 1) hx hb dX0_step_231 (by decide) ?_
                  refine lv_iconst (v := 3) hx hb dX0_step_232 (by decide) ?_
                  refine zxK_push C hP hS hl.1 (by decide) (Nat.le_of_ble_eq_true rfl) dX0_step_233 (fun u15 H locs hu15 hP hS => ?_)
                  refine lv_goto (tgt := 374) hx hb dX0_step_236 (by decide) ?_
                  exact zx_vret C hr hlk hP hS (by subst hu15; exact (if_neg c1).trans ((if_neg c2).trans ((if_neg c4).trans ((if_neg c6).trans ((if_neg c8).trans ((if_neg c10).trans ((if_neg c12).trans ((if_pos c14).trans (rfl))))))))) dX0_step_374
                · skip
                  by_cases c16 : (zx_unsignedByte u (zxg_pc u)) = 95
                  · refine lv_lookup (off := 220) (tgt := 246) hx hb dX0_step_26 (by decide) (z_sw c16 (by decide)) (by decide) ?_
                    refine lv_aload_n hx hb dX0_step_246 rfl (lv_at hl 1 rfl) ?_
                    refine zxK_swap C hP hS hl.1 (by decide) (Nat.le_of_ble_eq_true rfl) dX0_step_247 (fun u17 H locs hu17 hP hS => ?_)
                    refine lv_goto (tgt := 374) hx hb dX0_step_250 (by decide) ?_
                    exact zx_vret C hr hlk hP hS (by subst hu17; exact (if_neg c1).trans ((if_neg c2).trans ((if_neg c4).trans ((if_neg c6).trans ((if_neg c8).trans ((if_neg c10).trans ((if_neg c12).trans ((if_neg c14).trans ((if_pos c16).trans (rfl)))))))))) dX0_step_374
                  · skip
                    by_cases c18 : (zx_unsignedByte u (zxg_pc u)) = 96
                    · refine lv_lookup (off := 192) (tgt := 218) hx hb dX0_step_26 (by decide) (z_sw c18 (by decide)) (by decide) ?_
                      refine lv_aload_n hx hb dX0_step_218 rfl (lv_at hl 1 rfl) ?_
                      refine lv_iload_n hx hb dX0_step_219 rfl (lv_at hl 0 rfl) ?_
                      refine zxK_combine C hP hS hl.1 (by decide) (Nat.le_of_ble_eq_true rfl) dX0_step_220 (fun u19 H locs hu19 hP hS => ?_)
                      refine lv_goto (tgt := 374) hx hb dX0_step_223 (by decide) ?_
                      exact zx_vret C hr hlk hP hS (by subst hu19; exact (if_neg c1).trans ((if_neg c2).trans ((if_neg c4).trans ((if_neg c6).trans ((if_neg c8).trans ((if_neg c10).trans ((if_neg c12).trans ((if_neg c14).trans ((if_neg c16).trans ((if_pos c18).trans (rfl))))))))))) dX0_step_374
                    · skip
                      by_cases c20 : (zx_unsignedByte u (zxg_pc u)) = 100
                      · refine lv_lookup (off := 192) (tgt := 218) hx hb dX0_step_26 (by decide) (z_sw c20 (by decide)) (by decide) ?_
                        refine lv_aload_n hx hb dX0_step_218 rfl (lv_at hl 1 rfl) ?_
                        refine lv_iload_n hx hb dX0_step_219 rfl (lv_at hl 0 rfl) ?_
                        refine zxK_combine C hP hS hl.1 (by decide) (Nat.le_of_ble_eq_true rfl) dX0_step_220 (fun u21 H locs hu21 hP hS => ?_)
                        refine lv_goto (tgt := 374) hx hb dX0_step_223 (by decide) ?_
                        exact zx_vret C hr hlk hP hS (by subst hu21; exact (if_neg c1).trans ((if_neg c2).trans ((if_neg c4).trans ((if_neg c6).trans ((if_neg c8).trans ((if_neg c10).trans ((if_neg c12).trans ((if_neg c14).trans ((if_neg c16).trans ((if_neg c18).trans ((if_pos c20).trans (rfl)))))))))))) dX0_step_374
                      · skip
                        by_cases c22 : (zx_unsignedByte u (zxg_pc u)) = 126
                        · refine lv_lookup (off := 192) (tgt := 218) hx hb dX0_step_26 (by decide) (z_sw c22 (by decide)) (by decide) ?_
                          refine lv_aload_n hx hb dX0_step_218 rfl (lv_at hl 1 rfl) ?_
                          refine lv_iload_n hx hb dX0_step_219 rfl (lv_at hl 0 rfl) ?_
                          refine zxK_combine C hP hS hl.1 (by decide) (Nat.le_of_ble_eq_true rfl) dX0_step_220 (fun u23 H locs hu23 hP hS => ?_)
                          refine lv_goto (tgt := 374) hx hb dX0_step_223 (by decide) ?_
                          exact zx_vret C hr hlk hP hS (by subst hu23; exact (if_neg c1).trans ((if_neg c2).trans ((if_neg c4).trans ((if_neg c6).trans ((if_neg c8).trans ((if_neg c10).trans ((if_neg c12).trans ((if_neg c14).trans ((if_neg c16).trans ((if_neg c18).trans ((if_neg c20).trans ((if_pos c22).trans (rfl))))))))))))) dX0_step_374
                        · skip
                          by_cases c24 : (zx_unsignedByte u (zxg_pc u)) = 128
                          · refine lv_lookup (off := 192) (tgt := 218) hx hb dX0_step_26 (by decide) (z_sw c24 (by decide)) (by decide) ?_
                            refine lv_aload_n hx hb dX0_step_218 rfl (lv_at hl 1 rfl) ?_
                            refine lv_iload_n hx hb dX0_step_219 rfl (lv_at hl 0 rfl) ?_
                            refine zxK_combine C hP hS hl.1 (by decide) (Nat.le_of_ble_eq_true rfl) dX0_step_220 (fun u25 H locs hu25 hP hS => ?_)
                            refine lv_goto (tgt := 374) hx hb dX0_step_223 (by decide) ?_
                            exact zx_vret C hr hlk hP hS (by subst hu25; exact (if_neg c1).trans ((if_neg c2).trans ((if_neg c4).trans ((if_neg c6).trans ((if_neg c8).trans ((if_neg c10).trans ((if_neg c12).trans ((if_neg c14).trans ((if_neg c16).trans ((if_neg c18).trans ((if_neg c20).trans ((if_neg c22).trans ((if_pos c24).trans (rfl)))))))))))))) dX0_step_374
                          · skip
                            by_cases c26 : (zx_unsignedByte u (zxg_pc u)) = 132
                            · refine lv_lookup (off := 262) (tgt := 288) hx hb dX0_step_26 (by decide) (z_sw c26 (by decide)) (by decide) ?_
                              refine lv_aload_n hx hb dX0_step_288 rfl (lv_at hl 1 rfl) ?_
                              refine zxK_increase C hP hS hl.1 (by decide) (Nat.le_of_ble_eq_true rfl) dX0_step_289 (fun u27 H locs hu27 hP hS => ?_)
                              refine lv_goto (tgt := 374) hx hb dX0_step_292 (by decide) ?_
                              exact zx_vret C hr hlk hP hS (by subst hu27; exact (if_neg c1).trans ((if_neg c2).trans ((if_neg c4).trans ((if_neg c6).trans ((if_neg c8).trans ((if_neg c10).trans ((if_neg c12).trans ((if_neg c14).trans ((if_neg c16).trans ((if_neg c18).trans ((if_neg c20).trans ((if_neg c22).trans ((if_neg c24).trans ((if_pos c26).trans (rfl))))))))))))))) dX0_step_374
                            · skip
                              by_cases c28 : (zx_unsignedByte u (zxg_pc u)) = 153
                              · refine lv_lookup (off := 297) (tgt := 323) hx hb dX0_step_26 (by decide) (z_sw c28 (by decide)) (by decide) ?_
                                refine lv_aload_n hx hb dX0_step_323 rfl (lv_at hl 1 rfl) ?_
                                refine lv_aload_n hx hb dX0_step_324 rfl (lv_at hl 1 rfl) ?_
                                refine zxG_top C hP dX0_step_325 ?_
                                refine lv_if_ne (tgt := 335) hx hb dX0_step_328 (by decide) (fun c29 => ?_) (fun c29 => ?_)
                                · refine lv_iconst (v := 0) hx hb dX0_step_335 (by decide) ?_
                                  refine zxK_jumpOnTop C hP hS hl.1 (by decide) (Nat.le_of_ble_eq_true rfl) dX0_step_336 (fun u30 H locs hu30 hP hS => ?_)
                                  refine lv_goto (tgt := 374) hx hb dX0_step_339 (by decide) ?_
                                  exact zx_vret C hr hlk hP hS (by subst hu30; exact (if_neg c1).trans ((if_neg c2).trans ((if_neg c4).trans ((if_neg c6).trans ((if_neg c8).trans ((if_neg c10).trans ((if_neg c12).trans ((if_neg c14).trans ((if_neg c16).trans ((if_neg c18).trans ((if_neg c20).trans ((if_neg c22).trans ((if_neg c24).trans ((if_neg c26).trans ((if_pos c28).trans ((if_neg c29).trans (rfl))))))))))))))))) dX0_step_374
                                · refine lv_iconst (v := 1) hx hb dX0_step_331 (by decide) ?_
                                  refine lv_goto (tgt := 336) hx hb dX0_step_332 (by decide) ?_
                                  refine zxK_jumpOnTop C hP hS hl.1 (by decide) (Nat.le_of_ble_eq_true rfl) dX0_step_336 (fun u31 H locs hu31 hP hS => ?_)
                                  refine lv_goto (tgt := 374) hx hb dX0_step_339 (by decide) ?_
                                  exact zx_vret C hr hlk hP hS (by subst hu31; exact (if_neg c1).trans ((if_neg c2).trans ((if_neg c4).trans ((if_neg c6).trans ((if_neg c8).trans ((if_neg c10).trans ((if_neg c12).trans ((if_neg c14).trans ((if_neg c16).trans ((if_neg c18).trans ((if_neg c20).trans ((if_neg c22).trans ((if_neg c24).trans ((if_neg c26).trans ((if_pos c28).trans ((if_pos c29).trans (rfl))))))))))))))))) dX0_step_374
                              · skip
                                by_cases c32 : (zx_unsignedByte u (zxg_pc u)) = 155
                                · refine lv_lookup (off := 278) (tgt := 304) hx hb dX0_step_26 (by decide) (z_sw c32 (by decide)) (by decide) ?_
                                  refine lv_aload_n hx hb dX0_step_304 rfl (lv_at hl 1 rfl) ?_
                                  refine lv_aload_n hx hb dX0_step_305 rfl (lv_at hl 1 rfl) ?_
                                  refine zxG_top C hP dX0_step_306 ?_
                                  refine lv_if_ge (tgt := 316) hx hb dX0_step_309 (by decide) (fun c33 => ?_) (fun c33 => ?_)
                                  · refine lv_iconst (v := 0) hx hb dX0_step_316 (by decide) ?_
                                    refine zxK_jumpOnTop C hP hS hl.1 (by decide) (Nat.le_of_ble_eq_true rfl) dX0_step_317 (fun u34 H locs hu34 hP hS => ?_)
                                    refine lv_goto (tgt := 374) hx hb dX0_step_320 (by decide) ?_
                                    exact zx_vret C hr hlk hP hS (by subst hu34; exact (if_neg c1).trans ((if_neg c2).trans ((if_neg c4).trans ((if_neg c6).trans ((if_neg c8).trans ((if_neg c10).trans ((if_neg c12).trans ((if_neg c14).trans ((if_neg c16).trans ((if_neg c18).trans ((if_neg c20).trans ((if_neg c22).trans ((if_neg c24).trans ((if_neg c26).trans ((if_neg c28).trans ((if_pos c32).trans ((if_pos c33).trans (rfl)))))))))))))))))) dX0_step_374
                                  · refine lv_iconst (v := 1) hx hb dX0_step_312 (by decide) ?_
                                    refine lv_goto (tgt := 317) hx hb dX0_step_313 (by decide) ?_
                                    refine zxK_jumpOnTop C hP hS hl.1 (by decide) (Nat.le_of_ble_eq_true rfl) dX0_step_317 (fun u35 H locs hu35 hP hS => ?_)
                                    refine lv_goto (tgt := 374) hx hb dX0_step_320 (by decide) ?_
                                    exact zx_vret C hr hlk hP hS (by subst hu35; exact (if_neg c1).trans ((if_neg c2).trans ((if_neg c4).trans ((if_neg c6).trans ((if_neg c8).trans ((if_neg c10).trans ((if_neg c12).trans ((if_neg c14).trans ((if_neg c16).trans ((if_neg c18).trans ((if_neg c20).trans ((if_neg c22).trans ((if_neg c24).trans ((if_neg c26).trans ((if_neg c28).trans ((if_pos c32).trans ((if_neg c33).trans (rfl)))))))))))))))))) dX0_step_374
                                · skip
                                  by_cases c36 : (zx_unsignedByte u (zxg_pc u)) = 159
                                  · refine lv_lookup (off := 316) (tgt := 342) hx hb dX0_step_26 (by decide) (z_sw c36 (by decide)) (by decide) ?_
                                    refine lv_aload_n hx hb dX0_step_342 rfl (lv_at hl 1 rfl) ?_
                                    refine zxK_jumpOnLike C hP hS hl.1 (by decide) (Nat.le_of_ble_eq_true rfl) dX0_step_343 (fun u37 H locs hu37 hP hS => ?_)
                                    refine lv_goto (tgt := 374) hx hb dX0_step_346 (by decide) ?_
                                    exact zx_vret C hr hlk hP hS (by subst hu37; exact (if_neg c1).trans ((if_neg c2).trans ((if_neg c4).trans ((if_neg c6).trans ((if_neg c8).trans ((if_neg c10).trans ((if_neg c12).trans ((if_neg c14).trans ((if_neg c16).trans ((if_neg c18).trans ((if_neg c20).trans ((if_neg c22).trans ((if_neg c24).trans ((if_neg c26).trans ((if_neg c28).trans ((if_neg c32).trans ((if_pos c36).trans (rfl)))))))))))))))))) dX0_step_374
                                  · skip
                                    by_cases c38 : (zx_unsignedByte u (zxg_pc u)) = 167
                                    · refine lv_lookup (off := 269) (tgt := 295) hx hb dX0_step_26 (by decide) (z_sw c38 (by decide)) (by decide) ?_
                                      refine lv_aload_n hx hb dX0_step_295 rfl (lv_at hl 1 rfl) ?_
                                      refine lv_bipush (v := 7) hx hb dX0_step_296 (by decide) ?_
                                      refine zxK_jump C hP hS hl.1 (by decide) (Nat.le_of_ble_eq_true rfl) dX0_step_298 (fun u39 H locs hu39 hP hS => ?_)
                                      refine lv_goto (tgt := 374) hx hb dX0_step_301 (by decide) ?_
                                      exact zx_vret C hr hlk hP hS (by subst hu39; exact (if_neg c1).trans ((if_neg c2).trans ((if_neg c4).trans ((if_neg c6).trans ((if_neg c8).trans ((if_neg c10).trans ((if_neg c12).trans ((if_neg c14).trans ((if_neg c16).trans ((if_neg c18).trans ((if_neg c20).trans ((if_neg c22).trans ((if_neg c24).trans ((if_neg c26).trans ((if_neg c28).trans ((if_neg c32).trans ((if_neg c36).trans ((if_pos c38).trans (rfl))))))))))))))))))) dX0_step_374
                                    · skip
                                      by_cases c40 : (zx_unsignedByte u (zxg_pc u)) = 172
                                      · refine lv_lookup (off := 330) (tgt := 356) hx hb dX0_step_26 (by decide) (z_sw c40 (by decide)) (by decide) ?_
                                        refine lv_aload_n hx hb dX0_step_356 rfl (lv_at hl 1 rfl) ?_
                                        refine zxK_leave C hP hS hl.1 (by decide) (Nat.le_of_ble_eq_true rfl) dX0_step_357 (fun u41 H locs hu41 hP hS => ?_)
                                        refine lv_goto (tgt := 374) hx hb dX0_step_360 (by decide) ?_
                                        exact zx_vret C hr hlk hP hS (by subst hu41; exact (if_neg c1).trans ((if_neg c2).trans ((if_neg c4).trans ((if_neg c6).trans ((if_neg c8).trans ((if_neg c10).trans ((if_neg c12).trans ((if_neg c14).trans ((if_neg c16).trans ((if_neg c18).trans ((if_neg c20).trans ((if_neg c22).trans ((if_neg c24).trans ((if_neg c26).trans ((if_neg c28).trans ((if_neg c32).trans ((if_neg c36).trans ((if_neg c38).trans ((if_pos c40).trans (rfl)))))))))))))))))))) dX0_step_374
                                      · skip
                                        by_cases c42 : (zx_unsignedByte u (zxg_pc u)) = 182
                                        · refine lv_lookup (off := 323) (tgt := 349) hx hb dX0_step_26 (by decide) (z_sw c42 (by decide)) (by decide) ?_
                                          refine lv_aload_n hx hb dX0_step_349 rfl (lv_at hl 1 rfl) ?_
                                          refine zxK_enter C hP hS hl.1 (by decide) (Nat.le_of_ble_eq_true rfl) dX0_step_350 (fun u43 H locs hu43 hP hS => ?_)
                                          refine lv_goto (tgt := 374) hx hb dX0_step_353 (by decide) ?_
                                          exact zx_vret C hr hlk hP hS (by subst hu43; exact (if_neg c1).trans ((if_neg c2).trans ((if_neg c4).trans ((if_neg c6).trans ((if_neg c8).trans ((if_neg c10).trans ((if_neg c12).trans ((if_neg c14).trans ((if_neg c16).trans ((if_neg c18).trans ((if_neg c20).trans ((if_neg c22).trans ((if_neg c24).trans ((if_neg c26).trans ((if_neg c28).trans ((if_neg c32).trans ((if_neg c36).trans ((if_neg c38).trans ((if_neg c40).trans ((if_pos c42).trans (rfl))))))))))))))))))))) dX0_step_374
                                        · skip
                                          by_cases c44 : (zx_unsignedByte u (zxg_pc u)) = 196
                                          · refine lv_lookup (off := 248) (tgt := 274) hx hb dX0_step_26 (by decide) (z_sw c44 (by decide)) (by decide) ?_
                                            refine lv_aload_n hx hb dX0_step_274 rfl (lv_at hl 1 rfl) ?_
                                            refine zxK_wide C hP hS hl.1 (by decide) (Nat.le_of_ble_eq_true rfl) dX0_step_275 (fun u45 H locs hu45 hP hS => ?_)
                                            refine lv_goto (tgt := 374) hx hb dX0_step_278 (by decide) ?_
                                            exact zx_vret C hr hlk hP hS (by subst hu45; exact (if_neg c1).trans ((if_neg c2).trans ((if_neg c4).trans ((if_neg c6).trans ((if_neg c8).trans ((if_neg c10).trans ((if_neg c12).trans ((if_neg c14).trans ((if_neg c16).trans ((if_neg c18).trans ((if_neg c20).trans ((if_neg c22).trans ((if_neg c24).trans ((if_neg c26).trans ((if_neg c28).trans ((if_neg c32).trans ((if_neg c36).trans ((if_neg c38).trans ((if_neg c40).trans ((if_neg c42).trans ((if_pos c44).trans (rfl)))))))))))))))))))))) dX0_step_374
                                          · skip
                                            by_cases c46 : (zx_unsignedByte u (zxg_pc u)) = 255
                                            · refine lv_lookup (off := 337) (tgt := 363) hx hb dX0_step_26 (by decide) (z_sw c46 (by decide)) (by decide) ?_
                                              refine lv_aload_n hx hb dX0_step_363 rfl (lv_at hl 1 rfl) ?_
                                              refine zxK_halt C hP hS hl.1 (by decide) (Nat.le_of_ble_eq_true rfl) dX0_step_364 (fun u47 H locs hu47 hP hS => ?_)
                                              refine lv_goto (tgt := 374) hx hb dX0_step_367 (by decide) ?_
                                              exact zx_vret C hr hlk hP hS (by subst hu47; exact (if_neg c1).trans ((if_neg c2).trans ((if_neg c4).trans ((if_neg c6).trans ((if_neg c8).trans ((if_neg c10).trans ((if_neg c12).trans ((if_neg c14).trans ((if_neg c16).trans ((if_neg c18).trans ((if_neg c20).trans ((if_neg c22).trans ((if_neg c24).trans ((if_neg c26).trans ((if_neg c28).trans ((if_neg c32).trans ((if_neg c36).trans ((if_neg c38).trans ((if_neg c40).trans ((if_neg c42).trans ((if_neg c44).trans ((if_pos c46).trans (rfl))))))))))))))))))))))) dX0_step_374
                                            · skip
                                              refine lv_lookup (off := 344) (tgt := 370) hx hb dX0_step_26 (by decide) (by rw [lv_osw c2 rfl, lv_osw c4 rfl, lv_osw c6 rfl, lv_osw c8 rfl, lv_osw c10 rfl, lv_osw c12 rfl, lv_osw c14 rfl, lv_osw c16 rfl, lv_osw c18 rfl, lv_osw c20 rfl, lv_osw c22 rfl, lv_osw c24 rfl, lv_osw c26 rfl, lv_osw c28 rfl, lv_osw c32 rfl, lv_osw c36 rfl, lv_osw c38 rfl, lv_osw c40 rfl, lv_osw c42 rfl, lv_osw c44 rfl, lv_osw c46 rfl]; rfl) (by decide) ?_
                                              refine lv_aload_n hx hb dX0_step_370 rfl (lv_at hl 1 rfl) ?_
                                              refine zxK_trap C hP hS hl.1 (by decide) (Nat.le_of_ble_eq_true rfl) dX0_step_371 (fun u48 H locs hu48 hP hS => ?_)
                                              exact zx_vret C hr hlk hP hS (by subst hu48; exact (if_neg c1).trans ((if_neg c2).trans ((if_neg c4).trans ((if_neg c6).trans ((if_neg c8).trans ((if_neg c10).trans ((if_neg c12).trans ((if_neg c14).trans ((if_neg c16).trans ((if_neg c18).trans ((if_neg c20).trans ((if_neg c22).trans ((if_neg c24).trans ((if_neg c26).trans ((if_neg c28).trans ((if_neg c32).trans ((if_neg c36).trans ((if_neg c38).trans ((if_neg c40).trans ((if_neg c42).trans ((if_neg c44).trans ((if_neg c46).trans (rfl))))))))))))))))))))))) dX0_step_374
  · refine lv_aload_n hx hb dX0_step_11 rfl (lv_at hl 0 rfl) ?_
    refine zxK_fault C hP hS hl.1 (by decide) (Nat.le_of_ble_eq_true rfl) dX0_step_12 (fun u49 H locs hu49 hP hS => ?_)
    exact zx_vret C hr hlk hP hS (by subst hu49; exact (if_pos c1).trans (rfl)) dX0_step_15
def zx_boot (u : Zxs) (a1 a2 a3 a4 : Int32) : Zxs :=
  let u1 := zxs_pc u a1
  let u2 := zxs_sp u1 a2
  let u3 := zxs_lv u2 a3
  let u4 := zxs_cpp u3 a4
  if (zx_isWord a2) = 0 then (
    let u6 := zxs_top u4 0
    let u7 := zxs_state u6 0
    let u8 := zxs_cycles u7 0
    let u9 := zxs_instructions u8 0
    u9)
  else (
    let u10 := zxs_top u4 (zxg_words u4 a2.toNatClampNeg)
    let u11 := zxs_state u10 0
    let u12 := zxs_cycles u11 0
    let u13 := zxs_instructions u12 0
    u13)
set_option maxHeartbeats 4000000 in
set_option maxRecDepth 100000 in
theorem zxM_boot (l : Launch) (k : Zxk) (Dk : ZxD k) (u : Zxs) (a1 a2 a3 a4 : Int32) : Met l yX0_boot (.code yX0_boot cX0_boot 5 none :: wsX0_step) (zrm 1) (ZxB k [.ref (zxa_this k), .int a1, .int a2, .int a3, .int a4] u) (ZxQ k none (zx_boot u a1 a2 a3 a4)) 0 0 (ZxA k) := by
  refine zx_enter (by decide) rfl (Nat.le_of_ble_eq_true rfl) Dk ?_
  intro p e s m below meth c ls C hr hlk hP hl
  have hx := C.1.1
  have hb := C.1.2.1
  have hl : lv_has ls 5 [(0, .ref (zxa_this k)), (1, .int a1), (2, .int a2), (3, .int a3), (4, .int a4)] := hl
  have hS : va_S (ZxA k) s.heap s.heap [] := va_S.rf
  refine lv_aload_n hx hb dX0_boot_0 rfl (lv_at hl 0 rfl) ?_
  refine lv_iload_n hx hb dX0_boot_1 rfl (lv_at hl 1 rfl) ?_
  refine zxP_pc C hP hS dX0_boot_2 (fun u1 H locs hu1 hP hS => ?_)
  refine lv_aload_n hx hb dX0_boot_5 rfl (lv_at hl 0 rfl) ?_
  refine lv_iload_n hx hb dX0_boot_6 rfl (lv_at hl 2 rfl) ?_
  refine zxP_sp C hP hS dX0_boot_7 (fun u2 H locs hu2 hP hS => ?_)
  refine lv_aload_n hx hb dX0_boot_10 rfl (lv_at hl 0 rfl) ?_
  refine lv_iload_n hx hb dX0_boot_11 rfl (lv_at hl 3 rfl) ?_
  refine zxP_lv C hP hS dX0_boot_12 (fun u3 H locs hu3 hP hS => ?_)
  refine lv_aload_n hx hb dX0_boot_15 rfl (lv_at hl 0 rfl) ?_
  refine lv_iload hx hb dX0_boot_16 (lv_at hl 4 rfl) ?_
  refine zxP_cpp C hP hS dX0_boot_18 (fun u4 H locs hu4 hP hS => ?_)
  refine lv_aload_n hx hb dX0_boot_21 rfl (lv_at hl 0 rfl) ?_
  refine lv_iload_n hx hb dX0_boot_22 rfl (lv_at hl 2 rfl) ?_
  refine zxK_isWord C hl.1 (by decide) (Nat.le_of_ble_eq_true rfl) dX0_boot_23 ?_
  refine lv_if_eq (tgt := 38) hx hb dX0_boot_26 (by decide) (fun c5 => ?_) (fun c5 => ?_)
  · refine lv_iconst (v := 0) hx hb dX0_boot_38 (by decide) ?_
    refine zxP_top C hP hS dX0_boot_39 (fun u6 H locs hu6 hP hS => ?_)
    refine lv_aload_n hx hb dX0_boot_42 rfl (lv_at hl 0 rfl) ?_
    refine lv_iconst (v := 0) hx hb dX0_boot_43 (by decide) ?_
    refine zxP_state C hP hS dX0_boot_44 (fun u7 H locs hu7 hP hS => ?_)
    refine lv_aload_n hx hb dX0_boot_47 rfl (lv_at hl 0 rfl) ?_
    refine lv_iconst (v := 0) hx hb dX0_boot_48 (by decide) ?_
    refine zxP_cycles C hP hS dX0_boot_49 (fun u8 H locs hu8 hP hS => ?_)
    refine lv_aload_n hx hb dX0_boot_52 rfl (lv_at hl 0 rfl) ?_
    refine lv_iconst (v := 0) hx hb dX0_boot_53 (by decide) ?_
    refine zxP_instructions C hP hS dX0_boot_54 (fun u9 H locs hu9 hP hS => ?_)
    exact zx_vret C hr hlk hP hS (by subst hu1 hu2 hu3 hu4 hu6 hu7 hu8 hu9; exact (if_pos c5).trans (rfl)) dX0_boot_57
  · refine lv_aload_n hx hb dX0_boot_29 rfl (lv_at hl 0 rfl) ?_
    refine zxG_words C hP dX0_boot_30 ?_
    refine lv_iload_n hx hb dX0_boot_33 rfl (lv_at hl 2 rfl) ?_
    refine zxL_words C hP (by first | assumption | exact zx_in (by assumption) | exact zx_b10 (by assumption) | exact zx_b21 (by assumption) | exact zx_b31 (by assumption) | exact zx_b32 (by assumption) | exact zx_b42 (by assumption) | exact zx_b43 (by assumption) | exact zx_b33 (by assumption) | exact zx_b40 (by assumption) | exact zx_b41 (by assumption)) dX0_boot_34 ?_
    refine lv_goto (tgt := 39) hx hb dX0_boot_35 (by decide) ?_
    refine zxP_top C hP hS dX0_boot_39 (fun u10 H locs hu10 hP hS => ?_)
    refine lv_aload_n hx hb dX0_boot_42 rfl (lv_at hl 0 rfl) ?_
    refine lv_iconst (v := 0) hx hb dX0_boot_43 (by decide) ?_
    refine zxP_state C hP hS dX0_boot_44 (fun u11 H locs hu11 hP hS => ?_)
    refine lv_aload_n hx hb dX0_boot_47 rfl (lv_at hl 0 rfl) ?_
    refine lv_iconst (v := 0) hx hb dX0_boot_48 (by decide) ?_
    refine zxP_cycles C hP hS dX0_boot_49 (fun u12 H locs hu12 hP hS => ?_)
    refine lv_aload_n hx hb dX0_boot_52 rfl (lv_at hl 0 rfl) ?_
    refine lv_iconst (v := 0) hx hb dX0_boot_53 (by decide) ?_
    refine zxP_instructions C hP hS dX0_boot_54 (fun u13 H locs hu13 hP hS => ?_)
    exact zx_vret C hr hlk hP hS (by subst hu1 hu2 hu3 hu4 hu10 hu11 hu12 hu13; exact (if_neg c5).trans (rfl)) dX0_boot_57
