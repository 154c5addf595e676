def zx_run (u : Zxs) (a1 : Int32) : Int32 × Zxs :=
  if a1 < 0 then ((0, u))
  else (
    if a1 ≤ 1000 then (
      if (zxg_state u) = 0 then (
        let u4 := Zxsteps a1.toNatClampNeg u
        ((zxg_instructions u4) - (zxg_instructions u), u4))
      else ((0, u)))
    else ((0, u)))
set_option maxHeartbeats 4000000 in
set_option maxRecDepth 100000 in
theorem zxM_run (l : Launch) (k : Zxk) (Dk : ZxD k) (u : Zxs) (a1 : Int32) (h1 : ¬ a1 < 0) (h2 : a1 ≤ 1000) (h3 : zxg_state u = 0) : Met l yX0_run (.code yX0_run cX0_run 4 (some .int) :: (zxR ++ wsX0_step)) (zrm 6) (ZxB k [.ref (zxa_this k), .int a1] u) (ZxQ k (some (.int (zx_run u a1).1)) (zx_run u a1).2) 0 0 (ZxA k) := by
  refine zxE_inW (ex := zxR) (by decide) rfl (Nat.le_of_ble_eq_true rfl) Dk ?_
  intro p e s m below meth c ls C hz hr hlk hP hl
  have cw := zx_cwstep C hz
  have hx := C.1.1
  have hb := C.1.2.1
  have hl : lv_has ls 4 [(0, .ref (zxa_this k)), (1, .int a1)] := hl
  have hS : va_S (ZxA k) s.heap s.heap [] := va_S.rf
  refine lv_iload_n hx hb dX0_run_0 rfl (lv_at hl 1 rfl) ?_
  refine lv_if_lt (tgt := 11) hx hb dX0_run_1 (by decide) (fun c1 => ?_) (fun c1 => ?_)
  · first | exact absurd c1 h1 | exact absurd h2 c1 | exact absurd h3 c1
  · refine lv_iload_n hx hb dX0_run_4 rfl (lv_at hl 1 rfl) ?_
    refine lv_sipush (v := 1000) hx hb dX0_run_5 (by decide) ?_
    refine lv_icmp_le (tgt := 21) hx hb dX0_run_8 (by decide) (fun c2 => ?_) (fun c2 => ?_)
    · refine lv_aload_n hx hb dX0_run_21 rfl (lv_at hl 0 rfl) ?_
      refine zxG_state C hP dX0_run_22 ?_
      refine lv_if_eq (tgt := 38) hx hb dX0_run_25 (by decide) (fun c3 => ?_) (fun c3 => ?_)
      · refine lv_aload_n hx hb dX0_run_38 rfl (lv_at hl 0 rfl) ?_
        refine zxG_instructions C hP dX0_run_39 ?_
        refine lv_istore_n (lv' := [(2, .int (zxg_instructions u)), (0, .ref (zxa_this k)), (1, .int a1)]) hx hb dX0_run_42 rfl hl (by decide) rfl (fun ls hl => ?_)
        refine lv_iconst (v := 0) hx hb dX0_run_43 (by decide) ?_
        refine lv_istore_n (lv' := [(3, .int 0), (2, .int (zxg_instructions u)), (0, .ref (zxa_this k)), (1, .int a1)]) hx hb dX0_run_44 rfl hl (by decide) rfl (fun ls hl => ?_)
        refine zx_runloop C cw h1 hP hS (lv_sub hl [2, 3, 1, 0] rfl) (fun u4 H locs ls hu4 hP hS hl => ?_)
        refine lv_aload_n hx hb dX0_run_67 rfl (lv_at hl 0 rfl) ?_
        refine zxG_instructions C hP dX0_run_68 ?_
        refine lv_iload_n hx hb dX0_run_71 rfl (lv_at hl 2 rfl) ?_
        refine lv_isub hx hb dX0_run_72 ?_
        exact zx_iret C hr hlk hP hS (by subst hu4; exact (if_neg c1).trans ((if_pos c2).trans ((if_pos c3).trans (rfl)))) dX0_run_73
      · first | exact absurd c3 h1 | exact absurd h2 c3 | exact absurd h3 c3
    · first | exact absurd c2 h1 | exact absurd h2 c2 | exact absurd h3 c2
def zx_sum (u : Zxs) : Int32 :=
  zsum (zxg_words u) 256
set_option maxHeartbeats 4000000 in
set_option maxRecDepth 100000 in
theorem zxM_sum (l : Launch) (k : Zxk) (Dk : ZxD k) (u : Zxs) : Met l yX0_sum (.code yX0_sum cX0_sum 3 (some .int) :: wsX0_step) (zrm 0) (ZxB k [.ref (zxa_this k)] u) (QcRead (zx_sum u )) 0 0 (fun _ => False) := by
  refine zxE_inR (by decide) rfl (Nat.le_of_ble_eq_true rfl) Dk ?_
  intro p e s m below meth c ls C hr hlk hP hl
  have hx := C.1.1
  have hb := C.1.2.1
  have hl : lv_has ls 3 [(0, .ref (zxa_this k))] := hl
  refine lv_iconst (v := 0) hx hb dX0_sum_0 (by decide) ?_
  refine lv_istore_n (lv' := [(1, .int 0), (0, .ref (zxa_this k))]) hx hb dX0_sum_1 rfl hl (by decide) rfl (fun ls hl => ?_)
  refine lv_iconst (v := 0) hx hb dX0_sum_2 (by decide) ?_
  refine lv_istore_n (lv' := [(2, .int 0), (1, .int 0), (0, .ref (zxa_this k))]) hx hb dX0_sum_3 rfl hl (by decide) rfl (fun ls hl => ?_)
  refine zx_sumloop C hP 256 0 ls rfl (lv_sub hl [2, 1, 0] rfl) (fun ls hl => ?_)
  refine lv_iload_n hx hb dX0_sum_29 rfl (lv_at hl 1 rfl) ?_
  exact zx_rret C hr rfl hlk (by exact rfl) dX0_sum_30
def zt_run (u : Zts) (a1 : Int32) : Int32 × Zts :=
  if a1 < 0 then (
    let u2 := zts_thrown u 1
    (0, u2))
  else (
    if a1 ≤ 1000 then (
      if (ztg_state u) = 0 then (
        let u5 := zts_thrown u 0
        let u6 := Ztsteps a1.toNatClampNeg u5
        ((ztg_done u6) - (ztg_done u5), u6))
      else (
        let u7 := zts_thrown u 2
        (0, u7)))
    else (
      let u8 := zts_thrown u 1
      (0, u8)))
set_option maxHeartbeats 4000000 in
set_option maxRecDepth 100000 in
theorem ztM_run (l : Launch) (k : Ztk) (Dk : ZtD k) (u : Zts) (a1 : Int32) : Met l yX1_run (.code yX1_run cX1_run 4 (some .int) :: (ztR ++ zwT)) (zrm 6) (ZtB k [.ref (zta_this k), .int a1] u) (ZtQ k (some (.int (zt_run u a1).1)) (zt_run u a1).2) 0 0 (ZtA k) := by
  refine ztE_inW (ex := ztR) (by decide) rfl (Nat.le_of_ble_eq_true rfl) Dk ?_
  intro p e s m below meth c ls C hz hr hlk hP hl
  have cw := zt_cwstep C hz
  have hx := C.1.1
  have hb := C.1.2.1
  have hl : lv_has ls 4 [(0, .ref (zta_this k)), (1, .int a1)] := hl
  have hS : va_S (ZtA k) s.heap s.heap [] := va_S.rf
  refine lv_aload_n hx hb dX1_run_0 rfl (lv_at hl 0 rfl) ?_
  refine lv_iload_n hx hb dX1_run_1 rfl (lv_at hl 1 rfl) ?_
  refine lv_if_lt (tgt := 12) hx hb dX1_run_2 (by decide) (fun c1 => ?_) (fun c1 => ?_)
  · refine lv_iconst (v := 1) hx hb dX1_run_12 (by decide) ?_
    refine lv_goto (tgt := 28) hx hb dX1_run_13 (by decide) ?_
    refine ztP_thrown C hP hS dX1_run_28 (fun u2 H locs hu2 hP hS => ?_)
    refine lv_aload_n hx hb dX1_run_31 rfl (lv_at hl 0 rfl) ?_
    refine ztG_thrown C hP dX1_run_32 ?_
    refine lv_if_eq (tgt := 40) hx hb dX1_run_35 (by decide) (fun q => absurd (show (1 : Int32) = 0 by subst hu2; exact q) (by decide)) (fun _ => ?_)
    refine lv_iconst (v := 0) hx hb dX1_run_38 (by decide) ?_
    exact zt_iret C hr hlk hP hS (by subst hu2; first | (unfold zt_run; rw [if_pos c1]; done) | exact (if_pos c1).trans (rfl)) dX1_run_39
  · refine lv_iload_n hx hb dX1_run_5 rfl (lv_at hl 1 rfl) ?_
    refine lv_sipush (v := 1000) hx hb dX1_run_6 (by decide) ?_
    refine lv_icmp_le (tgt := 16) hx hb dX1_run_9 (by decide) (fun c3 => ?_) (fun c3 => ?_)
    · refine lv_aload_n hx hb dX1_run_16 rfl (lv_at hl 0 rfl) ?_
      refine ztG_state C hP dX1_run_17 ?_
      refine lv_if_eq (tgt := 27) hx hb dX1_run_20 (by decide) (fun c4 => ?_) (fun c4 => ?_)
      · refine lv_iconst (v := 0) hx hb dX1_run_27 (by decide) ?_
        refine ztP_thrown C hP hS dX1_run_28 (fun u5 H locs hu5 hP hS => ?_)
        refine lv_aload_n hx hb dX1_run_31 rfl (lv_at hl 0 rfl) ?_
        refine ztG_thrown C hP dX1_run_32 ?_
        refine lv_if_eq (tgt := 40) hx hb dX1_run_35 (by decide) (fun _ => ?_) (fun q => absurd (show ¬ ((0 : Int32) = 0) by subst hu5; exact q) (by decide))
        refine lv_aload_n hx hb dX1_run_40 rfl (lv_at hl 0 rfl) ?_
        refine ztG_done C hP dX1_run_41 ?_
        refine lv_istore_n (lv' := [(2, .int (ztg_done u5)), (0, .ref (zta_this k)), (1, .int a1)]) hx hb dX1_run_44 rfl hl (by decide) rfl (fun ls hl => ?_)
        refine lv_iconst (v := 0) hx hb dX1_run_45 (by decide) ?_
        refine lv_istore_n (lv' := [(3, .int 0), (2, .int (ztg_done u5)), (0, .ref (zta_this k)), (1, .int a1)]) hx hb dX1_run_46 rfl hl (by decide) rfl (fun ls hl => ?_)
        refine zt_runloop C cw c1 hP hS (lv_sub hl [2, 3, 1, 0] rfl) (fun u6 H locs ls hu6 hP hS hl => ?_)
        refine lv_aload_n hx hb dX1_run_69 rfl (lv_at hl 0 rfl) ?_
        refine ztG_done C hP dX1_run_70 ?_
        refine lv_iload_n hx hb dX1_run_73 rfl (lv_at hl 2 rfl) ?_
        refine lv_isub hx hb dX1_run_74 ?_
        exact zt_iret C hr hlk hP hS (by subst hu6 hu5; first | (unfold zt_run; rw [if_neg c1, if_pos c3, if_pos c4]; done) | exact (if_neg c1).trans ((if_pos c3).trans ((if_pos c4).trans (rfl)))) dX1_run_75
      · refine lv_iconst (v := 2) hx hb dX1_run_23 (by decide) ?_
        refine lv_goto (tgt := 28) hx hb dX1_run_24 (by decide) ?_
        refine ztP_thrown C hP hS dX1_run_28 (fun u7 H locs hu7 hP hS => ?_)
        refine lv_aload_n hx hb dX1_run_31 rfl (lv_at hl 0 rfl) ?_
        refine ztG_thrown C hP dX1_run_32 ?_
        refine lv_if_eq (tgt := 40) hx hb dX1_run_35 (by decide) (fun q => absurd (show (2 : Int32) = 0 by subst hu7; exact q) (by decide)) (fun _ => ?_)
        refine lv_iconst (v := 0) hx hb dX1_run_38 (by decide) ?_
        exact zt_iret C hr hlk hP hS (by subst hu7; first | (unfold zt_run; rw [if_neg c1, if_pos c3, if_neg c4]; done) | exact (if_neg c1).trans ((if_pos c3).trans ((if_neg c4).trans (rfl)))) dX1_run_39
    · refine lv_iconst (v := 1) hx hb dX1_run_12 (by decide) ?_
      refine lv_goto (tgt := 28) hx hb dX1_run_13 (by decide) ?_
      refine ztP_thrown C hP hS dX1_run_28 (fun u8 H locs hu8 hP hS => ?_)
      refine lv_aload_n hx hb dX1_run_31 rfl (lv_at hl 0 rfl) ?_
      refine ztG_thrown C hP dX1_run_32 ?_
      refine lv_if_eq (tgt := 40) hx hb dX1_run_35 (by decide) (fun q => absurd (show (1 : Int32) = 0 by subst hu8; exact q) (by decide)) (fun _ => ?_)
      refine lv_iconst (v := 0) hx hb dX1_run_38 (by decide) ?_
      exact zt_iret C hr hlk hP hS (by subst hu8; first | (unfold zt_run; rw [if_neg c1, if_neg c3]; done) | exact (if_neg c1).trans ((if_neg c3).trans (rfl))) dX1_run_39
def zt_sum (u : Zts) : Int32 × Zts :=
  let u1 := zts_thrown u 0
  (zsum (ztg_words u1) 256, u1)
set_option maxHeartbeats 4000000 in
set_option maxRecDepth 100000 in
theorem ztM_sum (l : Launch) (k : Ztk) (Dk : ZtD k) (u : Zts) : Met l yX1_sum (.code yX1_sum cX1_sum 3 (some .int) :: zwT) (zrm 0) (ZtB k [.ref (zta_this k)] u) (ZtQ k (some (.int (zt_sum u ).1)) (zt_sum u ).2) 0 0 (ZtA k) := by
  refine ztE_in (by decide) rfl (Nat.le_of_ble_eq_true rfl) Dk ?_
  intro p e s m below meth c ls C hr hlk hP hl
  have hx := C.1.1
  have hb := C.1.2.1
  have hl : lv_has ls 3 [(0, .ref (zta_this k))] := hl
  have hS : va_S (ZtA k) s.heap s.heap [] := va_S.rf
  refine lv_aload_n hx hb dX1_sum_0 rfl (lv_at hl 0 rfl) ?_
  refine lv_iconst (v := 0) hx hb dX1_sum_1 (by decide) ?_
  refine ztP_thrown C hP hS dX1_sum_2 (fun u1 H locs hu1 hP hS => ?_)
  refine lv_iconst (v := 0) hx hb dX1_sum_5 (by decide) ?_
  refine lv_istore_n (lv' := [(1, .int 0), (0, .ref (zta_this k))]) hx hb dX1_sum_6 rfl hl (by decide) rfl (fun ls hl => ?_)
  refine lv_iconst (v := 0) hx hb dX1_sum_7 (by decide) ?_
  refine lv_istore_n (lv' := [(2, .int 0), (1, .int 0), (0, .ref (zta_this k))]) hx hb dX1_sum_8 rfl hl (by decide) rfl (fun ls hl => ?_)
  refine zt_sumloop C hP 256 0 ls rfl (lv_sub hl [2, 1, 0] rfl) (fun ls hl => ?_)
  refine lv_iload_n hx hb dX1_sum_34 rfl (lv_at hl 1 rfl) ?_
  exact zt_iret C hr hlk hP hS (by subst hu1; exact rfl) dX1_sum_35
