def zx_word (u : Zxs) (a1 a2 : Int32) : Zxs :=
  if (zx_isWord a1) = 0 then (u)
  else (
    let u2 := zxs_words u (upd (zxg_words u) a1.toNatClampNeg a2)
    u2)
set_option maxHeartbeats 4000000 in
set_option maxRecDepth 100000 in
theorem zxM_word (l : Launch) (k : Zxk) (Dk : ZxD k) (u : Zxs) (a1 a2 : Int32) (hok : ¬ zx_isWord a1 = 0) : Met l yX0_word (.code yX0_word cX0_word 3 none :: wsX0_step) (zrm 1) (ZxB k [.ref (zxa_this k), .int a1, .int a2] u) (ZxQ k none (zx_word u a1 a2)) 0 0 (ZxA k) := by
  refine zxE_in (by decide) rfl (Nat.le_of_ble_eq_true rfl) Dk ?_
  intro p e s m below meth c ls C hr hlk hP hl
  have hx := C.1.1
  have hb := C.1.2.1
  have hl : lv_has ls 3 [(0, .ref (zxa_this k)), (1, .int a1), (2, .int a2)] := hl
  have hS : va_S (ZxA k) s.heap s.heap [] := va_S.rf
  refine lv_iload_n hx hb dX0_word_0 rfl (lv_at hl 1 rfl) ?_
  refine zxK_isWord C hl.1 (by decide) (Nat.le_of_ble_eq_true rfl) dX0_word_1 ?_
  refine lv_if_ne (tgt := 17) hx hb dX0_word_4 (by decide) (fun c1 => ?_) (fun c1 => ?_)
  · refine lv_aload_n hx hb dX0_word_17 rfl (lv_at hl 0 rfl) ?_
    refine zxG_words C hP dX0_word_18 ?_
    refine lv_iload_n hx hb dX0_word_21 rfl (lv_at hl 1 rfl) ?_
    refine lv_iload_n hx hb dX0_word_22 rfl (lv_at hl 2 rfl) ?_
    refine zxS_words C hP hS (by first | with_reducible assumption | with_reducible exact zx_in (by with_reducible assumption) | with_reducible exact zx_b10 (by with_reducible assumption) | with_reducible exact zx_b21 (by with_reducible assumption) | with_reducible exact zx_b31 (by with_reducible assumption) | with_reducible exact zx_b32 (by with_reducible assumption) | with_reducible exact zx_b42 (by with_reducible assumption) | with_reducible exact zx_b43 (by with_reducible assumption) | with_reducible exact zx_b33 (by with_reducible assumption) | with_reducible exact zx_b40 (by with_reducible assumption) | with_reducible exact zx_b41 (by with_reducible assumption)) dX0_word_23 (fun u2 H locs hu2 hP hS => ?_)
    exact zx_vret C hr hlk hP hS (by subst hu2; exact (if_neg c1).trans (rfl)) dX0_word_24
  · exact absurd c1 hok

def zx_look (u : Zxs) (a1 : Int32) : Int32 :=
  if (zx_isWord a1) = 0 then (0)
  else (
    zxg_words u a1.toNatClampNeg)
set_option maxHeartbeats 4000000 in
set_option maxRecDepth 100000 in
theorem zxM_look (l : Launch) (k : Zxk) (Dk : ZxD k) (u : Zxs) (a1 : Int32) (hok : ¬ zx_isWord a1 = 0) : Met l yX0_look (.code yX0_look cX0_look 2 (some .int) :: wsX0_step) (zrm 1) (ZxB k [.ref (zxa_this k), .int a1] u) (QcRead (zx_look u a1)) 0 0 (fun _ => False) := by
  refine zxE_inR (by decide) rfl (Nat.le_of_ble_eq_true rfl) Dk ?_
  intro p e s m below meth c ls C hr hlk hP hl
  have hx := C.1.1
  have hb := C.1.2.1
  have hl : lv_has ls 2 [(0, .ref (zxa_this k)), (1, .int a1)] := hl
  refine lv_iload_n hx hb dX0_look_0 rfl (lv_at hl 1 rfl) ?_
  refine zxK_isWord C hl.1 (by decide) (Nat.le_of_ble_eq_true rfl) dX0_look_1 ?_
  refine lv_if_ne (tgt := 17) hx hb dX0_look_4 (by decide) (fun c1 => ?_) (fun c1 => ?_)
  · refine lv_aload_n hx hb dX0_look_17 rfl (lv_at hl 0 rfl) ?_
    refine zxG_words C hP dX0_look_18 ?_
    refine lv_iload_n hx hb dX0_look_21 rfl (lv_at hl 1 rfl) ?_
    refine zxL_words C hP (by first | with_reducible assumption | with_reducible exact zx_in (by with_reducible assumption) | with_reducible exact zx_b10 (by with_reducible assumption) | with_reducible exact zx_b21 (by with_reducible assumption) | with_reducible exact zx_b31 (by with_reducible assumption) | with_reducible exact zx_b32 (by with_reducible assumption) | with_reducible exact zx_b42 (by with_reducible assumption) | with_reducible exact zx_b43 (by with_reducible assumption) | with_reducible exact zx_b33 (by with_reducible assumption) | with_reducible exact zx_b40 (by with_reducible assumption) | with_reducible exact zx_b41 (by with_reducible assumption)) dX0_look_22 ?_
    exact zx_rret C hr rfl hlk (by exact (if_neg c1).trans (rfl)) dX0_look_23
  · exact absurd c1 hok

theorem zx_b44 {p : Int32} (h : ¬ zx_areBytes p 4 = 0) : vp_in (p + 3) 512 := zx_bg (j := 3) (nn := 4) (by decide) (by decide) h
def zx_code (u : Zxs) (a1 a2 : Int32) : Zxs :=
  if (zx_areBytes a1 4) = 0 then (u)
  else (
    let u2 := zxs_bytes u (upd (zxg_bytes u) a1.toNatClampNeg (vp_nar .byte (a2.toInt8.toInt32)))
    let u3 := zxs_bytes u2 (upd (zxg_bytes u2) (a1 + 1).toNatClampNeg (vp_nar .byte ((a2 >>> (8 &&& 31)).toInt8.toInt32)))
    let u4 := zxs_bytes u3 (upd (zxg_bytes u3) (a1 + 2).toNatClampNeg (vp_nar .byte ((a2 >>> (16 &&& 31)).toInt8.toInt32)))
    let u5 := zxs_bytes u4 (upd (zxg_bytes u4) (a1 + 3).toNatClampNeg (vp_nar .byte ((a2 >>> (24 &&& 31)).toInt8.toInt32)))
    u5)
set_option maxHeartbeats 4000000 in
set_option maxRecDepth 100000 in
theorem zxM_code (l : Launch) (k : Zxk) (Dk : ZxD k) (u : Zxs) (a1 a2 : Int32) (hok : ¬ zx_areBytes a1 4 = 0) : Met l yX0_code (.code yX0_code cX0_code 3 none :: wsX0_step) (zrm 1) (ZxB k [.ref (zxa_this k), .int a1, .int a2] u) (ZxQ k none (zx_code u a1 a2)) 0 0 (ZxA k) := by
  refine zxE_in (by decide) rfl (Nat.le_of_ble_eq_true rfl) Dk ?_
  intro p e s m below meth c ls C hr hlk hP hl
  have hx := C.1.1
  have hb := C.1.2.1
  have hl : lv_has ls 3 [(0, .ref (zxa_this k)), (1, .int a1), (2, .int a2)] := hl
  have hS : va_S (ZxA k) s.heap s.heap [] := va_S.rf
  refine lv_iload_n hx hb dX0_code_0 rfl (lv_at hl 1 rfl) ?_
  refine lv_iconst (v := 4) hx hb dX0_code_1 (by decide) ?_
  refine zxK_areBytes C hl.1 (by decide) (Nat.le_of_ble_eq_true rfl) dX0_code_2 ?_
  refine lv_if_ne (tgt := 18) hx hb dX0_code_5 (by decide) (fun c1 => ?_) (fun c1 => ?_)
  · refine lv_aload_n hx hb dX0_code_18 rfl (lv_at hl 0 rfl) ?_
    refine zxG_bytes C hP dX0_code_19 ?_
    refine lv_iload_n hx hb dX0_code_22 rfl (lv_at hl 1 rfl) ?_
    refine lv_iload_n hx hb dX0_code_23 rfl (lv_at hl 2 rfl) ?_
    refine lv_i2b hx hb dX0_code_24 rfl ?_
    refine zxS_bytes C hP hS (by exact zx_b40 hok) dX0_code_25 (fun u2 H locs hu2 hP hS => ?_)
    refine lv_aload_n hx hb dX0_code_26 rfl (lv_at hl 0 rfl) ?_
    refine zxG_bytes C hP dX0_code_27 ?_
    refine lv_iload_n hx hb dX0_code_30 rfl (lv_at hl 1 rfl) ?_
    refine lv_iconst (v := 1) hx hb dX0_code_31 (by decide) ?_
    refine lv_iadd hx hb dX0_code_32 ?_
    refine lv_iload_n hx hb dX0_code_33 rfl (lv_at hl 2 rfl) ?_
    refine lv_bipush (v := 8) hx hb dX0_code_34 (by decide) ?_
    refine lv_ishr hx hb dX0_code_36 ?_
    refine lv_i2b hx hb dX0_code_37 rfl ?_
    refine zxS_bytes C hP hS (by subst hu2; exact zx_b41 hok) dX0_code_38 (fun u3 H locs hu3 hP hS => ?_)
    refine lv_aload_n hx hb dX0_code_39 rfl (lv_at hl 0 rfl) ?_
    refine zxG_bytes C hP dX0_code_40 ?_
    refine lv_iload_n hx hb dX0_code_43 rfl (lv_at hl 1 rfl) ?_
    refine lv_iconst (v := 2) hx hb dX0_code_44 (by decide) ?_
    refine lv_iadd hx hb dX0_code_45 ?_
    refine lv_iload_n hx hb dX0_code_46 rfl (lv_at hl 2 rfl) ?_
    refine lv_bipush (v := 16) hx hb dX0_code_47 (by decide) ?_
    refine lv_ishr hx hb dX0_code_49 ?_
    refine lv_i2b hx hb dX0_code_50 rfl ?_
    refine zxS_bytes C hP hS (by subst hu3 hu2; exact zx_b42 hok) dX0_code_51 (fun u4 H locs hu4 hP hS => ?_)
    refine lv_aload_n hx hb dX0_code_52 rfl (lv_at hl 0 rfl) ?_
    refine zxG_bytes C hP dX0_code_53 ?_
    refine lv_iload_n hx hb dX0_code_56 rfl (lv_at hl 1 rfl) ?_
    refine lv_iconst (v := 3) hx hb dX0_code_57 (by decide) ?_
    refine lv_iadd hx hb dX0_code_58 ?_
    refine lv_iload_n hx hb dX0_code_59 rfl (lv_at hl 2 rfl) ?_
    refine lv_bipush (v := 24) hx hb dX0_code_60 (by decide) ?_
    refine lv_ishr hx hb dX0_code_62 ?_
    refine lv_i2b hx hb dX0_code_63 rfl ?_
    refine zxS_bytes C hP hS (by subst hu4 hu3 hu2; exact zx_b44 hok) dX0_code_64 (fun u5 H locs hu5 hP hS => ?_)
    exact zx_vret C hr hlk hP hS (by subst hu5 hu4 hu3 hu2; exact (if_neg c1).trans (rfl)) dX0_code_65
  · exact absurd c1 hok

def zx_register (u : Zxs) (a1 : Int32) : Int32 :=
  if a1 = 0 then (
    zxg_pc u)
  else (
    if a1 = 1 then (
      zxg_sp u)
    else (
      if a1 = 2 then (
        zxg_lv u)
      else (
        if a1 = 3 then (
          zxg_cpp u)
        else (
          if a1 = 4 then (
            zxg_top u)
          else (
            if a1 = 5 then (
              zxg_state u)
            else (
              if a1 = 6 then (
                zxg_cycles u)
              else (
                if a1 = 7 then (
                  zxg_instructions u)
                else (0))))))))
set_option maxHeartbeats 4000000 in
set_option maxRecDepth 100000 in
theorem zxM_register (l : Launch) (k : Zxk) (Dk : ZxD k) (u : Zxs) (a1 : Int32) (hok : a1 = 0 ∨ a1 = 1 ∨ a1 = 2 ∨ a1 = 3 ∨ a1 = 4 ∨ a1 = 5 ∨ a1 = 6 ∨ a1 = 7) : Met l yX0_register (.code yX0_register cX0_register 2 (some .int) :: wsX0_step) (zrm 0) (ZxB k [.ref (zxa_this k), .int a1] u) (QcRead (zx_register u a1)) 0 0 (fun _ => False) := by
  refine zxE_inR (by decide) rfl (Nat.le_of_ble_eq_true rfl) Dk ?_
  intro p e s m below meth c ls C hr hlk hP hl
  have hx := C.1.1
  have hb := C.1.2.1
  have hl : lv_has ls 2 [(0, .ref (zxa_this k)), (1, .int a1)] := hl
  refine lv_iload_n hx hb dX0_register_0 rfl (lv_at hl 1 rfl) ?_
  by_cases c1 : a1 = 0
  · refine lv_tableIn (off := 47) (tgt := 48) hx hb dX0_register_1 (by rw [c1]; decide) (by rw [c1]; decide) (by rw [c1]; decide) (by decide) ?_
    refine lv_aload_n hx hb dX0_register_48 rfl (lv_at hl 0 rfl) ?_
    refine zxG_pc C hP dX0_register_49 ?_
    exact zx_rret C hr rfl hlk (by exact (if_pos c1).trans (rfl)) dX0_register_52
  · skip
    by_cases c2 : a1 = 1
    · refine lv_tableIn (off := 52) (tgt := 53) hx hb dX0_register_1 (by rw [c2]; decide) (by rw [c2]; decide) (by rw [c2]; decide) (by decide) ?_
      refine lv_aload_n hx hb dX0_register_53 rfl (lv_at hl 0 rfl) ?_
      refine zxG_sp C hP dX0_register_54 ?_
      exact zx_rret C hr rfl hlk (by exact (if_neg c1).trans ((if_pos c2).trans (rfl))) dX0_register_57
    · skip
      by_cases c3 : a1 = 2
      · refine lv_tableIn (off := 57) (tgt := 58) hx hb dX0_register_1 (by rw [c3]; decide) (by rw [c3]; decide) (by rw [c3]; decide) (by decide) ?_
        refine lv_aload_n hx hb dX0_register_58 rfl (lv_at hl 0 rfl) ?_
        refine zxG_lv C hP dX0_register_59 ?_
        exact zx_rret C hr rfl hlk (by exact (if_neg c1).trans ((if_neg c2).trans ((if_pos c3).trans (rfl)))) dX0_register_62
      · skip
        by_cases c4 : a1 = 3
        · refine lv_tableIn (off := 62) (tgt := 63) hx hb dX0_register_1 (by rw [c4]; decide) (by rw [c4]; decide) (by rw [c4]; decide) (by decide) ?_
          refine lv_aload_n hx hb dX0_register_63 rfl (lv_at hl 0 rfl) ?_
          refine zxG_cpp C hP dX0_register_64 ?_
          exact zx_rret C hr rfl hlk (by exact (if_neg c1).trans ((if_neg c2).trans ((if_neg c3).trans ((if_pos c4).trans (rfl))))) dX0_register_67
        · skip
          by_cases c5 : a1 = 4
          · refine lv_tableIn (off := 67) (tgt := 68) hx hb dX0_register_1 (by rw [c5]; decide) (by rw [c5]; decide) (by rw [c5]; decide) (by decide) ?_
            refine lv_aload_n hx hb dX0_register_68 rfl (lv_at hl 0 rfl) ?_
            refine zxG_top C hP dX0_register_69 ?_
            exact zx_rret C hr rfl hlk (by exact (if_neg c1).trans ((if_neg c2).trans ((if_neg c3).trans ((if_neg c4).trans ((if_pos c5).trans (rfl)))))) dX0_register_72
          · skip
            by_cases c6 : a1 = 5
            · refine lv_tableIn (off := 72) (tgt := 73) hx hb dX0_register_1 (by rw [c6]; decide) (by rw [c6]; decide) (by rw [c6]; decide) (by decide) ?_
              refine lv_aload_n hx hb dX0_register_73 rfl (lv_at hl 0 rfl) ?_
              refine zxG_state C hP dX0_register_74 ?_
              exact zx_rret C hr rfl hlk (by exact (if_neg c1).trans ((if_neg c2).trans ((if_neg c3).trans ((if_neg c4).trans ((if_neg c5).trans ((if_pos c6).trans (rfl))))))) dX0_register_77
            · skip
              by_cases c7 : a1 = 6
              · refine lv_tableIn (off := 77) (tgt := 78) hx hb dX0_register_1 (by rw [c7]; decide) (by rw [c7]; decide) (by rw [c7]; decide) (by decide) ?_
                refine lv_aload_n hx hb dX0_register_78 rfl (lv_at hl 0 rfl) ?_
                refine zxG_cycles C hP dX0_register_79 ?_
                exact zx_rret C hr rfl hlk (by exact (if_neg c1).trans ((if_neg c2).trans ((if_neg c3).trans ((if_neg c4).trans ((if_neg c5).trans ((if_neg c6).trans ((if_pos c7).trans (rfl)))))))) dX0_register_82
              · skip
                by_cases c8 : a1 = 7
                · refine lv_tableIn (off := 82) (tgt := 83) hx hb dX0_register_1 (by rw [c8]; decide) (by rw [c8]; decide) (by rw [c8]; decide) (by decide) ?_
                  refine lv_aload_n hx hb dX0_register_83 rfl (lv_at hl 0 rfl) ?_
                  refine zxG_instructions C hP dX0_register_84 ?_
                  exact zx_rret C hr rfl hlk (by exact (if_neg c1).trans ((if_neg c2).trans ((if_neg c3).trans ((if_neg c4).trans ((if_neg c5).trans ((if_neg c6).trans ((if_neg c7).trans ((if_pos c8).trans (rfl))))))))) dX0_register_87
                · skip
                  refine lv_tableOut (tgt := 88) hx hb dX0_register_1 (by have qc1 := lv_neT c1 (show (0 : Int32).toInt = 0 from rfl); have qc2 := lv_neT c2 (show (1 : Int32).toInt = 1 from rfl); have qc3 := lv_neT c3 (show (2 : Int32).toInt = 2 from rfl); have qc4 := lv_neT c4 (show (3 : Int32).toInt = 3 from rfl); have qc5 := lv_neT c5 (show (4 : Int32).toInt = 4 from rfl); have qc6 := lv_neT c6 (show (5 : Int32).toInt = 5 from rfl); have qc7 := lv_neT c7 (show (6 : Int32).toInt = 6 from rfl); have qc8 := lv_neT c8 (show (7 : Int32).toInt = 7 from rfl); omega) (by decide) ?_
                  exact by rcases hok with q | q | q | q | q | q | q | q <;> first | exact absurd q c1 | exact absurd q c2 | exact absurd q c3 | exact absurd q c4 | exact absurd q c5 | exact absurd q c6 | exact absurd q c7 | exact absurd q c8
