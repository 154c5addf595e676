set_option maxHeartbeats 4000000 in
set_option maxRecDepth 100000 in
theorem zxT_word (l : Launch) (hst : l.stackTraces = false) (k : Zxk) (Dk : ZxD k) (u : Zxs) (a1 a2 : Int32) (hbad : zx_isWord a1 = 0) : vx_Met l yX0_word (.code yX0_word cX0_word 3 none :: zwX) zrmX (ZxBE k [.ref (zxa_this k), .int a1, .int a2] u) (fun _ _ _ _ => False) (ZxX "java/lang/IndexOutOfBoundsException") 1 6 (fun _ => False) := by
  refine zx_enterX (by decide) rfl (Nat.le_of_ble_eq_true rfl) Dk ?_
  intro p e s m below meth c ls C hz hex hlk hP hE hl
  have hx := C.1.1
  have hb := C.1.2.1
  have hl : lv_has ls 3 [(0, .ref (zxa_this k)), (1, .int a1), (2, .int a2)] := hl
  refine lv_iload_n hx hb dX0_word_0 rfl (lv_at hl 1 rfl) ?_
  refine zxK_isWord C hl.1 (by decide) (Nat.le_of_ble_eq_true rfl) dX0_word_1 ?_
  refine lv_if_ne (tgt := 17) hx hb dX0_word_4 (by decide) (fun q => absurd hbad q) (fun _ => ?_)
  exact zx_th_word_7 hst C hz hex hlk hE hl.1
set_option maxHeartbeats 4000000 in
set_option maxRecDepth 100000 in
theorem zxT_look (l : Launch) (hst : l.stackTraces = false) (k : Zxk) (Dk : ZxD k) (u : Zxs) (a1 : Int32) (hbad : zx_isWord a1 = 0) : vx_Met l yX0_look (.code yX0_look cX0_look 2 (some .int) :: zwX) zrmX (ZxBE k [.ref (zxa_this k), .int a1] u) (fun _ _ _ _ => False) (ZxX "java/lang/IndexOutOfBoundsException") 1 6 (fun _ => False) := by
  refine zx_enterX (by decide) rfl (Nat.le_of_ble_eq_true rfl) Dk ?_
  intro p e s m below meth c ls C hz hex hlk hP hE hl
  have hx := C.1.1
  have hb := C.1.2.1
  have hl : lv_has ls 2 [(0, .ref (zxa_this k)), (1, .int a1)] := hl
  refine lv_iload_n hx hb dX0_look_0 rfl (lv_at hl 1 rfl) ?_
  refine zxK_isWord C hl.1 (by decide) (Nat.le_of_ble_eq_true rfl) dX0_look_1 ?_
  refine lv_if_ne (tgt := 17) hx hb dX0_look_4 (by decide) (fun q => absurd hbad q) (fun _ => ?_)
  exact zx_th_look_7 hst C hz hex hlk hE hl.1
set_option maxHeartbeats 4000000 in
set_option maxRecDepth 100000 in
theorem zxT_code (l : Launch) (hst : l.stackTraces = false) (k : Zxk) (Dk : ZxD k) (u : Zxs) (a1 a2 : Int32) (hbad : zx_areBytes a1 4 = 0) : vx_Met l yX0_code (.code yX0_code cX0_code 3 none :: zwX) zrmX (ZxBE k [.ref (zxa_this k), .int a1, .int a2] u) (fun _ _ _ _ => False) (ZxX "java/lang/IndexOutOfBoundsException") 1 6 (fun _ => False) := by
  refine zx_enterX (by decide) rfl (Nat.le_of_ble_eq_true rfl) Dk ?_
  intro p e s m below meth c ls C hz hex hlk hP hE hl
  have hx := C.1.1
  have hb := C.1.2.1
  have hl : lv_has ls 3 [(0, .ref (zxa_this k)), (1, .int a1), (2, .int a2)] := hl
  refine lv_iload_n hx hb dX0_code_0 rfl (lv_at hl 1 rfl) ?_
  refine lv_iconst (v := 4) hx hb dX0_code_1 (by decide) ?_
  refine zxK_areBytes C hl.1 (by decide) (Nat.le_of_ble_eq_true rfl) dX0_code_2 ?_
  refine lv_if_ne (tgt := 18) hx hb dX0_code_5 (by decide) (fun q => absurd hbad q) (fun _ => ?_)
  exact zx_th_code_8 hst C hz hex hlk hE hl.1
set_option maxHeartbeats 4000000 in
set_option maxRecDepth 100000 in
theorem zxT_register (l : Launch) (hst : l.stackTraces = false) (k : Zxk) (Dk : ZxD k) (u : Zxs) (a1 : Int32) (n0 : ¬ a1 = 0) (n1 : ¬ a1 = 1) (n2 : ¬ a1 = 2) (n3 : ¬ a1 = 3) (n4 : ¬ a1 = 4) (n5 : ¬ a1 = 5) (n6 : ¬ a1 = 6) (n7 : ¬ a1 = 7) : vx_Met l yX0_register (.code yX0_register cX0_register 2 (some .int) :: zwX) zrmX (ZxBE k [.ref (zxa_this k), .int a1] u) (fun _ _ _ _ => False) (ZxX "java/lang/IllegalArgumentException") 1 6 (fun _ => False) := by
  refine zx_enterX (by decide) rfl (Nat.le_of_ble_eq_true rfl) Dk ?_
  intro p e s m below meth c ls C hz hex hlk hP hE hl
  have hx := C.1.1
  have hb := C.1.2.1
  have hl : lv_has ls 2 [(0, .ref (zxa_this k)), (1, .int a1)] := hl
  refine lv_iload_n hx hb dX0_register_0 rfl (lv_at hl 1 rfl) ?_
  refine lv_tableOut (tgt := 88) hx hb dX0_register_1 (by have q0 := lv_neT n0 (show (0 : Int32).toInt = 0 from rfl); have q1 := lv_neT n1 (show (1 : Int32).toInt = 1 from rfl); have q2 := lv_neT n2 (show (2 : Int32).toInt = 2 from rfl); have q3 := lv_neT n3 (show (3 : Int32).toInt = 3 from rfl); have q4 := lv_neT n4 (show (4 : Int32).toInt = 4 from rfl); have q5 := lv_neT n5 (show (5 : Int32).toInt = 5 from rfl); have q6 := lv_neT n6 (show (6 : Int32).toInt = 6 from rfl); have q7 := lv_neT n7 (show (7 : Int32).toInt = 7 from rfl); omega) (by decide) ?_
  exact zx_th_register_88 hst C hz hex hlk hE hl.1
set_option maxHeartbeats 4000000 in
set_option maxRecDepth 100000 in
theorem zxT_runA (l : Launch) (hst : l.stackTraces = false) (k : Zxk) (Dk : ZxD k) (u : Zxs) (a1 : Int32) (hbad : a1 < 0 ∨ 1000 < a1) : vx_Met l yX0_run (.code yX0_run cX0_run 4 (some .int) :: zwX) zrmX (ZxBE k [.ref (zxa_this k), .int a1] u) (fun _ _ _ _ => False) (ZxX "java/lang/IllegalArgumentException") 1 6 (fun _ => False) := by
  refine zx_enterX (by decide) rfl (Nat.le_of_ble_eq_true rfl) Dk ?_
  intro p e s m below meth c ls C hz hex hlk hP hE hl
  have hx := C.1.1
  have hb := C.1.2.1
  have hl : lv_has ls 4 [(0, .ref (zxa_this k)), (1, .int a1)] := hl
  refine lv_iload_n hx hb dX0_run_0 rfl (lv_at hl 1 rfl) ?_
  refine lv_if_lt (tgt := 11) hx hb dX0_run_1 (by decide) (fun _ => ?_) (fun c1 => ?_)
  · exact zx_th_run_11 hst C hz hex hlk hE hl.1
  refine lv_iload_n hx hb dX0_run_4 rfl (lv_at hl 1 rfl) ?_
  refine lv_sipush (v := 1000) hx hb dX0_run_5 (by decide) ?_
  refine lv_icmp_le (tgt := 21) hx hb dX0_run_8 (by decide) (fun c2 => ?_) (fun _ => ?_)
  · exact absurd (hbad.resolve_left c1) (Int32.not_lt.mpr c2)
  · exact zx_th_run_11 hst C hz hex hlk hE hl.1
set_option maxHeartbeats 4000000 in
set_option maxRecDepth 100000 in
theorem zxT_runS (l : Launch) (hst : l.stackTraces = false) (k : Zxk) (Dk : ZxD k) (u : Zxs) (a1 : Int32) (h1 : ¬ a1 < 0) (h2 : a1 ≤ 1000) (h3 : ¬ zxg_state u = 0) : vx_Met l yX0_run (.code yX0_run cX0_run 4 (some .int) :: zwX) zrmX (ZxBE k [.ref (zxa_this k), .int a1] u) (fun _ _ _ _ => False) (ZxX "java/lang/IllegalStateException") 1 6 (fun _ => False) := by
  refine zx_enterX (by decide) rfl (Nat.le_of_ble_eq_true rfl) Dk ?_
  intro p e s m below meth c ls C hz hex hlk hP hE hl
  have hx := C.1.1
  have hb := C.1.2.1
  have hl : lv_has ls 4 [(0, .ref (zxa_this k)), (1, .int a1)] := hl
  refine lv_iload_n hx hb dX0_run_0 rfl (lv_at hl 1 rfl) ?_
  refine lv_if_lt (tgt := 11) hx hb dX0_run_1 (by decide) (fun q => absurd q h1) (fun _ => ?_)
  refine lv_iload_n hx hb dX0_run_4 rfl (lv_at hl 1 rfl) ?_
  refine lv_sipush (v := 1000) hx hb dX0_run_5 (by decide) ?_
  refine lv_icmp_le (tgt := 21) hx hb dX0_run_8 (by decide) (fun _ => ?_) (fun q => absurd h2 q)
  refine lv_aload_n hx hb dX0_run_21 rfl (lv_at hl 0 rfl) ?_
  refine zxG_state C hP dX0_run_22 ?_
  refine lv_if_eq (tgt := 38) hx hb dX0_run_25 (by decide) (fun q => absurd q h3) (fun _ => ?_)
  exact zx_th_run_28 hst C hz hex hlk hE hl.1
