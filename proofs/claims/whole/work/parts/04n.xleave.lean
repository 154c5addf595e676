def zx_leave (u : Zxs) : Zxs :=
  if (zx_isWord (zxg_lv u)) = 0 then (
    let u10 := zx_fault u
    u10)
  else (
    if (zx_isWord (zxg_words u (zxg_lv u).toNatClampNeg)) = 0 then (
      let u3 := zx_fault u
      u3)
    else (
      if (zx_isWord ((zxg_words u (zxg_lv u).toNatClampNeg) + 1)) = 0 then (
        let u9 := zx_fault u
        u9)
      else (
        let u5 := zxs_words u (upd (zxg_words u) (zxg_lv u).toNatClampNeg (zxg_top u))
        let u6 := zxs_sp u5 (zxg_lv u5)
        let u7 := zxs_lv u6 (zxg_words u ((zxg_words u (zxg_lv u).toNatClampNeg) + 1).toNatClampNeg)
        let u8 := zx_finish u7 (zxg_words u (zxg_words u (zxg_lv u).toNatClampNeg).toNatClampNeg) 9
        u8)))
set_option maxHeartbeats 4000000 in
set_option maxRecDepth 100000 in
theorem zxM_leave (l : Launch) (k : Zxk) (Dk : ZxD k) (u : Zxs) : Met l yX0_leave (.code yX0_leave cX0_leave 4 none :: wsX0_step) (zrm 1) (ZxB k [.ref (zxa_this k)] u) (ZxQ k none (zx_leave u )) 0 0 (ZxA k) := by
  refine zxE_in (by decide) rfl (Nat.le_of_ble_eq_true rfl) Dk ?_
  intro p e s m below meth c ls C hr hlk hP hl
  have hx := C.1.1
  have hb := C.1.2.1
  have hl : lv_has ls 4 [(0, .ref (zxa_this k))] := hl
  have hS : va_S (ZxA k) s.heap s.heap [] := va_S.rf
  refine lv_aload_n hx hb dX0_leave_0 rfl (lv_at hl 0 rfl) ?_
  refine zxG_lv C hP dX0_leave_1 ?_
  refine zxK_isWord C hl.1 (by decide) (Nat.le_of_ble_eq_true rfl) dX0_leave_4 ?_
  refine lv_if_ne (tgt := 15) hx hb dX0_leave_7 (by decide) (fun c1 => ?_) (fun c1 => ?_)
  · refine lv_aload_n hx hb dX0_leave_15 rfl (lv_at hl 0 rfl) ?_
    refine zxG_words C hP dX0_leave_16 ?_
    refine lv_aload_n hx hb dX0_leave_19 rfl (lv_at hl 0 rfl) ?_
    refine zxG_lv C hP dX0_leave_20 ?_
    refine zxL_words C hP (by first | with_reducible assumption | with_reducible exact zx_in (by with_reducible assumption) | with_reducible exact zx_b10 (by with_reducible assumption) | with_reducible exact zx_b21 (by with_reducible assumption) | with_reducible exact zx_b31 (by with_reducible assumption) | with_reducible exact zx_b32 (by with_reducible assumption) | with_reducible exact zx_b42 (by with_reducible assumption) | with_reducible exact zx_b43 (by with_reducible assumption) | with_reducible exact zx_b33 (by with_reducible assumption) | with_reducible exact zx_b40 (by with_reducible assumption) | with_reducible exact zx_b41 (by with_reducible assumption)) dX0_leave_23 ?_
    refine lv_istore_n (lv' := [(1, .int (zxg_words u (zxg_lv u).toNatClampNeg)), (0, .ref (zxa_this k))]) hx hb dX0_leave_24 rfl hl (by decide) rfl (fun ls hl => ?_)
    refine lv_iload_n hx hb dX0_leave_25 rfl (lv_at hl 0 rfl) ?_
    refine zxK_isWord C hl.1 (by decide) (Nat.le_of_ble_eq_true rfl) dX0_leave_26 ?_
    refine lv_if_eq (tgt := 41) hx hb dX0_leave_29 (by decide) (fun c2 => ?_) (fun c2 => ?_)
    · refine lv_aload_n hx hb dX0_leave_41 rfl (lv_at hl 1 rfl) ?_
      refine zxK_fault C hP hS hl.1 (by decide) (Nat.le_of_ble_eq_true rfl) dX0_leave_42 (fun u3 H locs hu3 hP hS => ?_)
      exact zx_vret C hr hlk hP hS (by subst hu3; exact (if_neg c1).trans ((if_pos c2).trans (rfl))) dX0_leave_45
    · refine lv_iload_n hx hb dX0_leave_32 rfl (lv_at hl 0 rfl) ?_
      refine lv_iconst (v := 1) hx hb dX0_leave_33 (by decide) ?_
      refine lv_iadd hx hb dX0_leave_34 ?_
      refine zxK_isWord C hl.1 (by decide) (Nat.le_of_ble_eq_true rfl) dX0_leave_35 ?_
      refine lv_if_ne (tgt := 46) hx hb dX0_leave_38 (by decide) (fun c4 => ?_) (fun c4 => ?_)
      · refine lv_aload_n hx hb dX0_leave_46 rfl (lv_at hl 1 rfl) ?_
        refine zxG_words C hP dX0_leave_47 ?_
        refine lv_iload_n hx hb dX0_leave_50 rfl (lv_at hl 0 rfl) ?_
        refine zxL_words C hP (by first | with_reducible assumption | with_reducible exact zx_in (by with_reducible assumption) | with_reducible exact zx_b10 (by with_reducible assumption) | with_reducible exact zx_b21 (by with_reducible assumption) | with_reducible exact zx_b31 (by with_reducible assumption) | with_reducible exact zx_b32 (by with_reducible assumption) | with_reducible exact zx_b42 (by with_reducible assumption) | with_reducible exact zx_b43 (by with_reducible assumption) | with_reducible exact zx_b33 (by with_reducible assumption) | with_reducible exact zx_b40 (by with_reducible assumption) | with_reducible exact zx_b41 (by with_reducible assumption)) dX0_leave_51 ?_
        refine lv_istore_n (lv' := [(2, .int (zxg_words u (zxg_words u (zxg_lv u).toNatClampNeg).toNatClampNeg)), (1, .int (zxg_words u (zxg_lv u).toNatClampNeg)), (0, .ref (zxa_this k))]) hx hb dX0_leave_52 rfl hl (by decide) rfl (fun ls hl => ?_)
        refine lv_aload_n hx hb dX0_leave_53 rfl (lv_at hl 2 rfl) ?_
        refine zxG_words C hP dX0_leave_54 ?_
        refine lv_iload_n hx hb dX0_leave_57 rfl (lv_at hl 1 rfl) ?_
        refine lv_iconst (v := 1) hx hb dX0_leave_58 (by decide) ?_
        refine lv_iadd hx hb dX0_leave_59 ?_
        refine zxL_words C hP (by first | with_reducible assumption | with_reducible exact zx_in (by with_reducible assumption) | with_reducible exact zx_b10 (by with_reducible assumption) | with_reducible exact zx_b21 (by with_reducible assumption) | with_reducible exact zx_b31 (by with_reducible assumption) | with_reducible exact zx_b32 (by with_reducible assumption) | with_reducible exact zx_b42 (by with_reducible assumption) | with_reducible exact zx_b43 (by with_reducible assumption) | with_reducible exact zx_b33 (by with_reducible assumption) | with_reducible exact zx_b40 (by with_reducible assumption) | with_reducible exact zx_b41 (by with_reducible assumption)) dX0_leave_60 ?_
        refine lv_istore_n (lv' := [(3, .int (zxg_words u ((zxg_words u (zxg_lv u).toNatClampNeg) + 1).toNatClampNeg)), (2, .int (zxg_words u (zxg_words u (zxg_lv u).toNatClampNeg).toNatClampNeg)), (1, .int (zxg_words u (zxg_lv u).toNatClampNeg)), (0, .ref (zxa_this k))]) hx hb dX0_leave_61 rfl hl (by decide) rfl (fun ls hl => ?_)
        refine lv_aload_n hx hb dX0_leave_62 rfl (lv_at hl 3 rfl) ?_
        refine zxG_words C hP dX0_leave_63 ?_
        refine lv_aload_n hx hb dX0_leave_66 rfl (lv_at hl 3 rfl) ?_
        refine zxG_lv C hP dX0_leave_67 ?_
        refine lv_aload_n hx hb dX0_leave_70 rfl (lv_at hl 3 rfl) ?_
        refine zxG_top C hP dX0_leave_71 ?_
        refine zxS_words C hP hS (by first | with_reducible assumption | with_reducible exact zx_in (by with_reducible assumption) | with_reducible exact zx_b10 (by with_reducible assumption) | with_reducible exact zx_b21 (by with_reducible assumption) | with_reducible exact zx_b31 (by with_reducible assumption) | with_reducible exact zx_b32 (by with_reducible assumption) | with_reducible exact zx_b42 (by with_reducible assumption) | with_reducible exact zx_b43 (by with_reducible assumption) | with_reducible exact zx_b33 (by with_reducible assumption) | with_reducible exact zx_b40 (by with_reducible assumption) | with_reducible exact zx_b41 (by with_reducible assumption)) dX0_leave_74 (fun u5 H locs hu5 hP hS => ?_)
        refine lv_aload_n hx hb dX0_leave_75 rfl (lv_at hl 3 rfl) ?_
        refine lv_aload_n hx hb dX0_leave_76 rfl (lv_at hl 3 rfl) ?_
        refine zxG_lv C hP dX0_leave_77 ?_
        refine zxP_sp C hP hS dX0_leave_80 (fun u6 H locs hu6 hP hS => ?_)
        refine lv_aload_n hx hb dX0_leave_83 rfl (lv_at hl 3 rfl) ?_
        refine lv_iload_n hx hb dX0_leave_84 rfl (lv_at hl 0 rfl) ?_
        refine zxP_lv C hP hS dX0_leave_85 (fun u7 H locs hu7 hP hS => ?_)
        refine lv_aload_n hx hb dX0_leave_88 rfl (lv_at hl 3 rfl) ?_
        refine lv_iload_n hx hb dX0_leave_89 rfl (lv_at hl 1 rfl) ?_
        refine lv_bipush (v := 9) hx hb dX0_leave_90 (by decide) ?_
        refine zxK_finish C hP hS hl.1 (by decide) (Nat.le_of_ble_eq_true rfl) dX0_leave_92 (fun u8 H locs hu8 hP hS => ?_)
        exact zx_vret C hr hlk hP hS (by subst hu8 hu7 hu6 hu5; exact (if_neg c1).trans ((if_neg c2).trans ((if_neg c4).trans (rfl)))) dX0_leave_95
      · refine lv_aload_n hx hb dX0_leave_41 rfl (lv_at hl 1 rfl) ?_
        refine zxK_fault C hP hS hl.1 (by decide) (Nat.le_of_ble_eq_true rfl) dX0_leave_42 (fun u9 H locs hu9 hP hS => ?_)
        exact zx_vret C hr hlk hP hS (by subst hu9; exact (if_neg c1).trans ((if_neg c2).trans ((if_pos c4).trans (rfl)))) dX0_leave_45
  · refine lv_aload_n hx hb dX0_leave_10 rfl (lv_at hl 0 rfl) ?_
    refine zxK_fault C hP hS hl.1 (by decide) (Nat.le_of_ble_eq_true rfl) dX0_leave_11 (fun u10 H locs hu10 hP hS => ?_)
    exact zx_vret C hr hlk hP hS (by subst hu10; exact (if_pos c1).trans (rfl)) dX0_leave_14
section
variable {p : Program} {l : Launch} {e : Env} {R : Room} {s : State} {m : MethodId} {args : Array Value} {below : List Frame} {meth : Method} {c : Code} {H : Heap} {locs : List Loc} {Q : State → Prop} {cc : ByteArray} {pc nL : Nat} {ls : Array Slot} {rest : List Value} {k : Zxk} {u : Zxs} {H0 : Heap}
set_option maxHeartbeats 4000000 in
set_option maxRecDepth 100000 in
theorem zxK_leave (C : ZxC p s m args c cc nL k) (hP : ZxP k u H) (hS : va_S (ZxA k) H0 H locs) (hsz : ls.size = nL) (hR : 1 + 1 ≤ R.frames ∧ 8 + (4 + 11) + 40 * 1 ≤ R.locals) (hw : (rest.map fun v => v.category).sum ≤ 8) (hdg : decode cc pc = .ok (.invokevirtual 130, 3)) (kk : ∀ (u1 : Zxs) (H1 : Heap) (locs1 : List Loc), u1 = zx_leave u  → ZxP k u1 H1 → va_S (ZxA k) H0 H1 locs1 → W p l e R s m args below meth c H1 locs1 0 0 Q (F0 m (pc + 3) ls (rest))) : W p l e R s m args below meth c H locs 0 0 Q (F0 m pc ls (.ref (zxa_this k) :: rest)) :=
  zx_callV (y := yX0_leave) (n := 0) (As := []) C (zxM_leave l k C.2.2 u  ) wsX0_step_c_leave wsX0_step_l_leave wsX0_step_i_leave wsX0_step_v_leave rfl (by decide +kernel) hP hS hsz hR hw rfl hdg (fun H1 locs1 hP1 hS1 => kk _ H1 locs1 rfl hP1 hS1)
end
