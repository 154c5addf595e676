def zt_thrown (u : Zts) : Int32 :=
  ztg_thrown u
set_option maxHeartbeats 4000000 in
set_option maxRecDepth 100000 in
theorem ztM_thrown (l : Launch) (k : Ztk) (Dk : ZtD k) (u : Zts) : Met l yX1_thrown (.code yX1_thrown cX1_thrown 1 (some .int) :: zwT) (zrm 0) (ZtB k [.ref (zta_this k)] u) (QcRead (zt_thrown u )) 0 0 (fun _ => False) := by
  refine ztE_inR (by decide) rfl (Nat.le_of_ble_eq_true rfl) Dk ?_
  intro p e s m below meth c ls C hr hlk hP hl
  have hx := C.1.1
  have hb := C.1.2.1
  have hl : lv_has ls 1 [(0, .ref (zta_this k))] := hl
  refine lv_aload_n hx hb dX1_thrown_0 rfl (lv_at hl 0 rfl) ?_
  refine ztG_thrown C hP dX1_thrown_1 ?_
  exact zt_rret C hr rfl hlk (by exact rfl) dX1_thrown_4
