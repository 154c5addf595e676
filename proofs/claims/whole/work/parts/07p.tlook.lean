def zt_look (u : Zts) (a1 : Int32) : Int32 × Zts :=
  if (zt_isWord a1) = 0 then (
    let u2 := zts_thrown u 1
    (0, u2))
  else (
    let u3 := zts_thrown u 0
    (ztg_words u3 a1.toNatClampNeg, u3))
set_option maxHeartbeats 4000000 in
set_option maxRecDepth 100000 in
theorem ztM_look (l : Launch) (k : Ztk) (Dk : ZtD k) (u : Zts) (a1 : Int32) : Met l yX1_look (.code yX1_look cX1_look 2 (some .int) :: zwT) (zrm 1) (ZtB k [.ref (zta_this k), .int a1] u) (ZtQ k (some (.int (zt_look u a1).1)) (zt_look u a1).2) 0 0 (ZtA k) := by
  refine ztE_in (by decide) rfl (Nat.le_of_ble_eq_true rfl) Dk ?_
  intro p e s m below meth c ls C hr hlk hP hl
  have hx := C.1.1
  have hb := C.1.2.1
  have hl : lv_has ls 2 [(0, .ref (zta_this k)), (1, .int a1)] := hl
  have hS : va_S (ZtA k) s.heap s.heap [] := va_S.rf
  refine lv_aload_n hx hb dX1_look_0 rfl (lv_at hl 0 rfl) ?_
  refine lv_iload_n hx hb dX1_look_1 rfl (lv_at hl 1 rfl) ?_
  refine ztK_isWord C hl.1 (by decide) (Nat.le_of_ble_eq_true rfl) dX1_look_2 ?_
  refine lv_if_eq (tgt := 12) hx hb dX1_look_5 (by decide) (fun c1 => ?_) (fun c1 => ?_)
  · refine lv_iconst (v := 1) hx hb dX1_look_12 (by decide) ?_
    refine ztP_thrown C hP hS dX1_look_13 (fun u2 H locs hu2 hP hS => ?_)
    refine lv_aload_n hx hb dX1_look_16 rfl (lv_at hl 0 rfl) ?_
    refine ztG_thrown C hP dX1_look_17 ?_
    refine lv_if_ne (tgt := 32) hx hb dX1_look_20 (by decide) (fun _ => ?_) (fun q => absurd (show (1 : Int32) = 0 by subst hu2; exact q) (by decide))
    refine lv_iconst (v := 0) hx hb dX1_look_32 (by decide) ?_
    exact zt_iret C hr hlk hP hS (by subst hu2; first | (unfold zt_look; rw [if_pos c1]; done) | exact (if_pos c1).trans (rfl)) dX1_look_33
  · refine lv_iconst (v := 0) hx hb dX1_look_8 (by decide) ?_
    refine lv_goto (tgt := 13) hx hb dX1_look_9 (by decide) ?_
    refine ztP_thrown C hP hS dX1_look_13 (fun u3 H locs hu3 hP hS => ?_)
    refine lv_aload_n hx hb dX1_look_16 rfl (lv_at hl 0 rfl) ?_
    refine ztG_thrown C hP dX1_look_17 ?_
    refine lv_if_ne (tgt := 32) hx hb dX1_look_20 (by decide) (fun q => absurd (show ¬ ((0 : Int32) = 0) by subst hu3; exact q) (by decide)) (fun _ => ?_)
    refine lv_aload_n hx hb dX1_look_23 rfl (lv_at hl 0 rfl) ?_
    refine ztG_words C hP dX1_look_24 ?_
    refine lv_iload_n hx hb dX1_look_27 rfl (lv_at hl 1 rfl) ?_
    refine ztL_words C hP (by first | with_reducible assumption | with_reducible exact zt_in (by with_reducible assumption) | with_reducible exact zt_inb (by with_reducible assumption) (by with_reducible assumption)) dX1_look_28 ?_
    refine lv_goto (tgt := 33) hx hb dX1_look_29 (by decide) ?_
    exact zt_iret C hr hlk hP hS (by subst hu3; first | (unfold zt_look; rw [if_neg c1]; done) | exact (if_neg c1).trans (rfl)) dX1_look_33
