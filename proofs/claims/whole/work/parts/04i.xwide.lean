def zx_wide (u : Zxs) : Zxs :=
  if (zx_areBytes (zxg_pc u) 2) = 0 then (
    let u15 := zx_fault u
    u15)
  else (
    if (zx_unsignedByte u ((zxg_pc u) + 1)) = 21 then (
      if (zx_areBytes (zxg_pc u) 4) = 0 then (
        let u7 := zx_fault u
        u7)
      else (
        if (zx_unsignedByte u ((zxg_pc u) + 1)) = 21 then (
          let u6 := zx_load u ((zxg_lv u) + (zx_unsignedPair u ((zxg_pc u) + 2))) 4 10
          u6)
        else (
          let u5 := zx_store u ((zxg_lv u) + (zx_unsignedPair u ((zxg_pc u) + 2))) 4 11
          u5)))
    else (
      if (zx_unsignedByte u ((zxg_pc u) + 1)) = 54 then (
        if (zx_areBytes (zxg_pc u) 4) = 0 then (
          let u13 := zx_fault u
          u13)
        else (
          if (zx_unsignedByte u ((zxg_pc u) + 1)) = 21 then (
            let u12 := zx_load u ((zxg_lv u) + (zx_unsignedPair u ((zxg_pc u) + 2))) 4 10
            u12)
          else (
            let u11 := zx_store u ((zxg_lv u) + (zx_unsignedPair u ((zxg_pc u) + 2))) 4 11
            u11)))
      else (
        let u14 := zx_trap u
        u14)))
set_option maxHeartbeats 4000000 in
set_option maxRecDepth 100000 in
theorem zxM_wide (l : Launch) (k : Zxk) (Dk : ZxD k) (u : Zxs) : Met l yX0_wide (.code yX0_wide cX0_wide 3 none :: wsX0_step) (zrm 3) (ZxB k [.ref (zxa_this k)] u) (ZxQ k none (zx_wide u )) 0 0 (ZxA k) := by
  refine zxE_in (by decide) rfl (Nat.le_of_ble_eq_true rfl) Dk ?_
  intro p e s m below meth c ls C hr hlk hP hl
  have hx := C.1.1
  have hb := C.1.2.1
  have hl : lv_has ls 3 [(0, .ref (zxa_this k))] := hl
  have hS : va_S (ZxA k) s.heap s.heap [] := va_S.rf
  refine lv_aload_n hx hb dX0_wide_0 rfl (lv_at hl 0 rfl) ?_
  refine zxG_pc C hP dX0_wide_1 ?_
  refine lv_iconst (v := 2) hx hb dX0_wide_4 (by decide) ?_
  refine zxK_areBytes C hl.1 (by decide) (Nat.le_of_ble_eq_true rfl) dX0_wide_5 ?_
  refine lv_if_ne (tgt := 16) hx hb dX0_wide_8 (by decide) (fun c1 => ?_) (fun c1 => ?_)
  · refine lv_aload_n hx hb dX0_wide_16 rfl (lv_at hl 0 rfl) ?_
    refine lv_aload_n hx hb dX0_wide_17 rfl (lv_at hl 0 rfl) ?_
    refine zxG_pc C hP dX0_wide_18 ?_
    refine lv_iconst (v := 1) hx hb dX0_wide_21 (by decide) ?_
    refine lv_iadd hx hb dX0_wide_22 ?_
    refine zxK_unsignedByte C hP hl.1 (by decide) (Nat.le_of_ble_eq_true rfl) (by first | with_reducible assumption | with_reducible exact zx_in (by with_reducible assumption) | with_reducible exact zx_b10 (by with_reducible assumption) | with_reducible exact zx_b21 (by with_reducible assumption) | with_reducible exact zx_b31 (by with_reducible assumption) | with_reducible exact zx_b32 (by with_reducible assumption) | with_reducible exact zx_b42 (by with_reducible assumption) | with_reducible exact zx_b43 (by with_reducible assumption) | with_reducible exact zx_b33 (by with_reducible assumption) | with_reducible exact zx_b40 (by with_reducible assumption) | with_reducible exact zx_b41 (by with_reducible assumption)) dX0_wide_23 ?_
    refine lv_istore_n (lv' := [(1, .int (zx_unsignedByte u ((zxg_pc u) + 1))), (0, .ref (zxa_this k))]) hx hb dX0_wide_26 rfl hl (by decide) rfl (fun ls hl => ?_)
    refine lv_iload_n hx hb dX0_wide_27 rfl (lv_at hl 0 rfl) ?_
    refine lv_bipush (v := 21) hx hb dX0_wide_28 (by decide) ?_
    refine lv_icmp_eq (tgt := 44) hx hb dX0_wide_30 (by decide) (fun c2 => ?_) (fun c2 => ?_)
    · refine lv_aload_n hx hb dX0_wide_44 rfl (lv_at hl 1 rfl) ?_
      refine zxG_pc C hP dX0_wide_45 ?_
      refine lv_iconst (v := 4) hx hb dX0_wide_48 (by decide) ?_
      refine zxK_areBytes C hl.1 (by decide) (Nat.le_of_ble_eq_true rfl) dX0_wide_49 ?_
      refine lv_if_ne (tgt := 60) hx hb dX0_wide_52 (by decide) (fun c3 => ?_) (fun c3 => ?_)
      · refine lv_aload_n hx hb dX0_wide_60 rfl (lv_at hl 1 rfl) ?_
        refine zxG_lv C hP dX0_wide_61 ?_
        refine lv_aload_n hx hb dX0_wide_64 rfl (lv_at hl 1 rfl) ?_
        refine lv_aload_n hx hb dX0_wide_65 rfl (lv_at hl 1 rfl) ?_
        refine zxG_pc C hP dX0_wide_66 ?_
        refine lv_iconst (v := 2) hx hb dX0_wide_69 (by decide) ?_
        refine lv_iadd hx hb dX0_wide_70 ?_
        refine zxK_unsignedPair C hP hl.1 (by decide) (Nat.le_of_ble_eq_true rfl) (by first | with_reducible assumption | with_reducible exact zx_in (by with_reducible assumption) | with_reducible exact zx_b10 (by with_reducible assumption) | with_reducible exact zx_b21 (by with_reducible assumption) | with_reducible exact zx_b31 (by with_reducible assumption) | with_reducible exact zx_b32 (by with_reducible assumption) | with_reducible exact zx_b42 (by with_reducible assumption) | with_reducible exact zx_b43 (by with_reducible assumption) | with_reducible exact zx_b33 (by with_reducible assumption) | with_reducible exact zx_b40 (by with_reducible assumption) | with_reducible exact zx_b41 (by with_reducible assumption)) (by first | with_reducible assumption | with_reducible exact zx_in (by with_reducible assumption) | with_reducible exact zx_b10 (by with_reducible assumption) | with_reducible exact zx_b21 (by with_reducible assumption) | with_reducible exact zx_b31 (by with_reducible assumption) | with_reducible exact zx_b32 (by with_reducible assumption) | with_reducible exact zx_b42 (by with_reducible assumption) | with_reducible exact zx_b43 (by with_reducible assumption) | with_reducible exact zx_b33 (by with_reducible assumption) | with_reducible exact zx_b40 (by with_reducible assumption) | with_reducible exact zx_b41 (by with_reducible assumption)) dX0_wide_71 ?_
        refine lv_iadd hx hb dX0_wide_74 ?_
        refine lv_istore_n (lv' := [(2, .int ((zxg_lv u) + (zx_unsignedPair u ((zxg_pc u) + 2)))), (1, .int (zx_unsignedByte u ((zxg_pc u) + 1))), (0, .ref (zxa_this k))]) hx hb dX0_wide_75 rfl hl (by decide) rfl (fun ls hl => ?_)
        refine lv_iload_n hx hb dX0_wide_76 rfl (lv_at hl 1 rfl) ?_
        refine lv_bipush (v := 21) hx hb dX0_wide_77 (by decide) ?_
        refine lv_icmp_ne (tgt := 93) hx hb dX0_wide_79 (by decide) (fun c4 => ?_) (fun c4 => ?_)
        · refine lv_aload_n hx hb dX0_wide_93 rfl (lv_at hl 2 rfl) ?_
          refine lv_iload_n hx hb dX0_wide_94 rfl (lv_at hl 0 rfl) ?_
          refine lv_iconst (v := 4) hx hb dX0_wide_95 (by decide) ?_
          refine lv_bipush (v := 11) hx hb dX0_wide_96 (by decide) ?_
          refine zxK_store C hP hS hl.1 (by decide) (Nat.le_of_ble_eq_true rfl) dX0_wide_98 (fun u5 H locs hu5 hP hS => ?_)
          exact zx_vret C hr hlk hP hS (by subst hu5; exact (if_neg c1).trans ((if_pos c2).trans ((if_neg c3).trans ((if_neg c4).trans (rfl))))) dX0_wide_101
        · refine lv_aload_n hx hb dX0_wide_82 rfl (lv_at hl 2 rfl) ?_
          refine lv_iload_n hx hb dX0_wide_83 rfl (lv_at hl 0 rfl) ?_
          refine lv_iconst (v := 4) hx hb dX0_wide_84 (by decide) ?_
          refine lv_bipush (v := 10) hx hb dX0_wide_85 (by decide) ?_
          refine zxK_load C hP hS hl.1 (by decide) (Nat.le_of_ble_eq_true rfl) dX0_wide_87 (fun u6 H locs hu6 hP hS => ?_)
          refine lv_goto (tgt := 101) hx hb dX0_wide_90 (by decide) ?_
          exact zx_vret C hr hlk hP hS (by subst hu6; exact (if_neg c1).trans ((if_pos c2).trans ((if_neg c3).trans ((if_pos c4).trans (rfl))))) dX0_wide_101
      · refine lv_aload_n hx hb dX0_wide_55 rfl (lv_at hl 1 rfl) ?_
        refine zxK_fault C hP hS hl.1 (by decide) (Nat.le_of_ble_eq_true rfl) dX0_wide_56 (fun u7 H locs hu7 hP hS => ?_)
        exact zx_vret C hr hlk hP hS (by subst hu7; exact (if_neg c1).trans ((if_pos c2).trans ((if_pos c3).trans (rfl)))) dX0_wide_59
    · refine lv_iload_n hx hb dX0_wide_33 rfl (lv_at hl 0 rfl) ?_
      refine lv_bipush (v := 54) hx hb dX0_wide_34 (by decide) ?_
      refine lv_icmp_eq (tgt := 44) hx hb dX0_wide_36 (by decide) (fun c8 => ?_) (fun c8 => ?_)
      · refine lv_aload_n hx hb dX0_wide_44 rfl (lv_at hl 1 rfl) ?_
        refine zxG_pc C hP dX0_wide_45 ?_
        refine lv_iconst (v := 4) hx hb dX0_wide_48 (by decide) ?_
        refine zxK_areBytes C hl.1 (by decide) (Nat.le_of_ble_eq_true rfl) dX0_wide_49 ?_
        refine lv_if_ne (tgt := 60) hx hb dX0_wide_52 (by decide) (fun c9 => ?_) (fun c9 => ?_)
        · refine lv_aload_n hx hb dX0_wide_60 rfl (lv_at hl 1 rfl) ?_
          refine zxG_lv C hP dX0_wide_61 ?_
          refine lv_aload_n hx hb dX0_wide_64 rfl (lv_at hl 1 rfl) ?_
          refine lv_aload_n hx hb dX0_wide_65 rfl (lv_at hl 1 rfl) ?_
          refine zxG_pc C hP dX0_wide_66 ?_
          refine lv_iconst (v := 2) hx hb dX0_wide_69 (by decide) ?_
          refine lv_iadd hx hb dX0_wide_70 ?_
          refine zxK_unsignedPair C hP hl.1 (by decide) (Nat.le_of_ble_eq_true rfl) (by first | with_reducible assumption | with_reducible exact zx_in (by with_reducible assumption) | with_reducible exact zx_b10 (by with_reducible assumption) | with_reducible exact zx_b21 (by with_reducible assumption) | with_reducible exact zx_b31 (by with_reducible assumption) | with_reducible exact zx_b32 (by with_reducible assumption) | with_reducible exact zx_b42 (by with_reducible assumption) | with_reducible exact zx_b43 (by with_reducible assumption) | with_reducible exact zx_b33 (by with_reducible assumption) | with_reducible exact zx_b40 (by with_reducible assumption) | with_reducible exact zx_b41 (by with_reducible assumption)) (by first | with_reducible assumption | with_reducible exact zx_in (by with_reducible assumption) | with_reducible exact zx_b10 (by with_reducible assumption) | with_reducible exact zx_b21 (by with_reducible assumption) | with_reducible exact zx_b31 (by with_reducible assumption) | with_reducible exact zx_b32 (by with_reducible assumption) | with_reducible exact zx_b42 (by with_reducible assumption) | with_reducible exact zx_b43 (by with_reducible assumption) | with_reducible exact zx_b33 (by with_reducible assumption) | with_reducible exact zx_b40 (by with_reducible assumption) | with_reducible exact zx_b41 (by with_reducible assumption)) dX0_wide_71 ?_
          refine lv_iadd hx hb dX0_wide_74 ?_
          refine lv_istore_n (lv' := [(2, .int ((zxg_lv u) + (zx_unsignedPair u ((zxg_pc u) + 2)))), (1, .int (zx_unsignedByte u ((zxg_pc u) + 1))), (0, .ref (zxa_this k))]) hx hb dX0_wide_75 rfl hl (by decide) rfl (fun ls hl => ?_)
          refine lv_iload_n hx hb dX0_wide_76 rfl (lv_at hl 1 rfl) ?_
          refine lv_bipush (v := 21) hx hb dX0_wide_77 (by decide) ?_
          refine lv_icmp_ne (tgt := 93) hx hb dX0_wide_79 (by decide) (fun c10 => ?_) (fun c10 => ?_)
          · refine lv_aload_n hx hb dX0_wide_93 rfl (lv_at hl 2 rfl) ?_
            refine lv_iload_n hx hb dX0_wide_94 rfl (lv_at hl 0 rfl) ?_
            refine lv_iconst (v := 4) hx hb dX0_wide_95 (by decide) ?_
            refine lv_bipush (v := 11) hx hb dX0_wide_96 (by decide) ?_
            refine zxK_store C hP hS hl.1 (by decide) (Nat.le_of_ble_eq_true rfl) dX0_wide_98 (fun u11 H locs hu11 hP hS => ?_)
            exact zx_vret C hr hlk hP hS (by subst hu11; exact (if_neg c1).trans ((if_neg c2).trans ((if_pos c8).trans ((if_neg c9).trans ((if_neg c10).trans (rfl)))))) dX0_wide_101
          · refine lv_aload_n hx hb dX0_wide_82 rfl (lv_at hl 2 rfl) ?_
            refine lv_iload_n hx hb dX0_wide_83 rfl (lv_at hl 0 rfl) ?_
            refine lv_iconst (v := 4) hx hb dX0_wide_84 (by decide) ?_
            refine lv_bipush (v := 10) hx hb dX0_wide_85 (by decide) ?_
            refine zxK_load C hP hS hl.1 (by decide) (Nat.le_of_ble_eq_true rfl) dX0_wide_87 (fun u12 H locs hu12 hP hS => ?_)
            refine lv_goto (tgt := 101) hx hb dX0_wide_90 (by decide) ?_
            exact zx_vret C hr hlk hP hS (by subst hu12; exact (if_neg c1).trans ((if_neg c2).trans ((if_pos c8).trans ((if_neg c9).trans ((if_pos c10).trans (rfl)))))) dX0_wide_101
        · refine lv_aload_n hx hb dX0_wide_55 rfl (lv_at hl 1 rfl) ?_
          refine zxK_fault C hP hS hl.1 (by decide) (Nat.le_of_ble_eq_true rfl) dX0_wide_56 (fun u13 H locs hu13 hP hS => ?_)
          exact zx_vret C hr hlk hP hS (by subst hu13; exact (if_neg c1).trans ((if_neg c2).trans ((if_pos c8).trans ((if_pos c9).trans (rfl))))) dX0_wide_59
      · refine lv_aload_n hx hb dX0_wide_39 rfl (lv_at hl 1 rfl) ?_
        refine zxK_trap C hP hS hl.1 (by decide) (Nat.le_of_ble_eq_true rfl) dX0_wide_40 (fun u14 H locs hu14 hP hS => ?_)
        exact zx_vret C hr hlk hP hS (by subst hu14; exact (if_neg c1).trans ((if_neg c2).trans ((if_neg c8).trans (rfl)))) dX0_wide_43
  · refine lv_aload_n hx hb dX0_wide_11 rfl (lv_at hl 0 rfl) ?_
    refine zxK_fault C hP hS hl.1 (by decide) (Nat.le_of_ble_eq_true rfl) dX0_wide_12 (fun u15 H locs hu15 hP hS => ?_)
    exact zx_vret C hr hlk hP hS (by subst hu15; exact (if_pos c1).trans (rfl)) dX0_wide_15
section
variable {p : Program} {l : Launch} {e : Env} {R : Room} {s : State} {m : MethodId} {args : Array Value} {below : List Frame} {meth : Method} {c : Code} {H : Heap} {locs : List Loc} {Q : State → Prop} {cc : ByteArray} {pc nL : Nat} {ls : Array Slot} {rest : List Value} {k : Zxk} {u : Zxs} {H0 : Heap}
set_option maxHeartbeats 4000000 in
set_option maxRecDepth 100000 in
theorem zxK_wide (C : ZxC p s m args c cc nL k) (hP : ZxP k u H) (hS : va_S (ZxA k) H0 H locs) (hsz : ls.size = nL) (hR : 3 + 1 ≤ R.frames ∧ 8 + (3 + 11) + 40 * 3 ≤ R.locals) (hw : (rest.map fun v => v.category).sum ≤ 8) (hdg : decode cc pc = .ok (.invokevirtual 108, 3)) (kk : ∀ (u1 : Zxs) (H1 : Heap) (locs1 : List Loc), u1 = zx_wide u  → ZxP k u1 H1 → va_S (ZxA k) H0 H1 locs1 → W p l e R s m args below meth c H1 locs1 0 0 Q (F0 m (pc + 3) ls (rest))) : W p l e R s m args below meth c H locs 0 0 Q (F0 m pc ls (.ref (zxa_this k) :: rest)) :=
  zx_callV (y := yX0_wide) (n := 0) (As := []) C (zxM_wide l k C.2.2 u  ) wsX0_step_c_wide wsX0_step_l_wide wsX0_step_i_wide wsX0_step_v_wide rfl (by decide +kernel) hP hS hsz hR hw rfl hdg (fun H1 locs1 hP1 hS1 => kk _ H1 locs1 rfl hP1 hS1)
end
