def zx_enter (u : Zxs) : Zxs :=
  if (zx_areBytes (zxg_pc u) 3) = 0 then (
    let u19 := zx_fault u
    u19)
  else (
    if (zx_isWord ((zxg_cpp u) + (zx_unsignedPair u ((zxg_pc u) + 1)))) = 0 then (
      let u3 := zx_fault u
      u3)
    else (
      if (zx_areBytes (zxg_words u ((zxg_cpp u) + (zx_unsignedPair u ((zxg_pc u) + 1))).toNatClampNeg) 4) = 0 then (
        let u18 := zx_fault u
        u18)
      else (
        if (zx_isWord (((zxg_sp u) - (zx_unsignedPair u (zxg_words u ((zxg_cpp u) + (zx_unsignedPair u ((zxg_pc u) + 1))).toNatClampNeg))) + 1)) = 0 then (
          let u6 := zx_fault u
          u6)
        else (
          if (zx_isWord (((zxg_sp u) + (zx_unsignedPair u ((zxg_words u ((zxg_cpp u) + (zx_unsignedPair u ((zxg_pc u) + 1))).toNatClampNeg) + 2))) + 1)) = 0 then (
            let u8 := zx_fault u
            u8)
          else (
            if (zx_isWord ((((zxg_sp u) + (zx_unsignedPair u ((zxg_words u ((zxg_cpp u) + (zx_unsignedPair u ((zxg_pc u) + 1))).toNatClampNeg) + 2))) + 1) + 1)) = 0 then (
              let u17 := zx_fault u
              u17)
            else (
              let u10 := zxs_words u (upd (zxg_words u) (((zxg_sp u) - (zx_unsignedPair u (zxg_words u ((zxg_cpp u) + (zx_unsignedPair u ((zxg_pc u) + 1))).toNatClampNeg))) + 1).toNatClampNeg (((zxg_sp u) + (zx_unsignedPair u ((zxg_words u ((zxg_cpp u) + (zx_unsignedPair u ((zxg_pc u) + 1))).toNatClampNeg) + 2))) + 1))
              let u11 := zxs_words u10 (upd (zxg_words u10) (((zxg_sp u) + (zx_unsignedPair u ((zxg_words u ((zxg_cpp u) + (zx_unsignedPair u ((zxg_pc u) + 1))).toNatClampNeg) + 2))) + 1).toNatClampNeg ((zxg_pc u10) + 3))
              let u12 := zxs_words u11 (upd (zxg_words u11) ((((zxg_sp u) + (zx_unsignedPair u ((zxg_words u ((zxg_cpp u) + (zx_unsignedPair u ((zxg_pc u) + 1))).toNatClampNeg) + 2))) + 1) + 1).toNatClampNeg (zxg_lv u11))
              let u13 := zxs_sp u12 ((((zxg_sp u) + (zx_unsignedPair u ((zxg_words u ((zxg_cpp u) + (zx_unsignedPair u ((zxg_pc u) + 1))).toNatClampNeg) + 2))) + 1) + 1)
              let u14 := zxs_lv u13 (((zxg_sp u) - (zx_unsignedPair u (zxg_words u ((zxg_cpp u) + (zx_unsignedPair u ((zxg_pc u) + 1))).toNatClampNeg))) + 1)
              let u15 := zxs_top u14 (((zxg_sp u) - (zx_unsignedPair u (zxg_words u ((zxg_cpp u) + (zx_unsignedPair u ((zxg_pc u) + 1))).toNatClampNeg))) + 1)
              let u16 := zx_finish u15 ((zxg_words u ((zxg_cpp u) + (zx_unsignedPair u ((zxg_pc u) + 1))).toNatClampNeg) + 4) 23
              u16))))))
set_option maxHeartbeats 4000000 in
set_option maxRecDepth 100000 in
theorem zxM_enter (l : Launch) (k : Zxk) (Dk : ZxD k) (u : Zxs) : Met l yX0_enter (.code yX0_enter cX0_enter 5 none :: wsX0_step) (zrm 2) (ZxB k [.ref (zxa_this k)] u) (ZxQ k none (zx_enter u )) 0 0 (ZxA k) := by
  refine zxE_in (by decide) rfl (Nat.le_of_ble_eq_true rfl) Dk ?_
  intro p e s m below meth c ls C hr hlk hP hl
  have hx := C.1.1
  have hb := C.1.2.1
  have hl : lv_has ls 5 [(0, .ref (zxa_this k))] := hl
  have hS : va_S (ZxA k) s.heap s.heap [] := va_S.rf
  refine lv_aload_n hx hb dX0_enter_0 rfl (lv_at hl 0 rfl) ?_
  refine zxG_pc C hP dX0_enter_1 ?_
  refine lv_iconst (v := 3) hx hb dX0_enter_4 (by decide) ?_
  refine zxK_areBytes C hl.1 (by decide) (Nat.le_of_ble_eq_true rfl) dX0_enter_5 ?_
  refine lv_if_ne (tgt := 16) hx hb dX0_enter_8 (by decide) (fun c1 => ?_) (fun c1 => ?_)
  · refine lv_aload_n hx hb dX0_enter_16 rfl (lv_at hl 0 rfl) ?_
    refine zxG_cpp C hP dX0_enter_17 ?_
    refine lv_aload_n hx hb dX0_enter_20 rfl (lv_at hl 0 rfl) ?_
    refine lv_aload_n hx hb dX0_enter_21 rfl (lv_at hl 0 rfl) ?_
    refine zxG_pc C hP dX0_enter_22 ?_
    refine lv_iconst (v := 1) hx hb dX0_enter_25 (by decide) ?_
    refine lv_iadd hx hb dX0_enter_26 ?_
    refine zxK_unsignedPair C hP hl.1 (by decide) (Nat.le_of_ble_eq_true rfl) (by first | with_reducible assumption | with_reducible exact zx_in (by with_reducible assumption) | with_reducible exact zx_b10 (by with_reducible assumption) | with_reducible exact zx_b21 (by with_reducible assumption) | with_reducible exact zx_b31 (by with_reducible assumption) | with_reducible exact zx_b32 (by with_reducible assumption) | with_reducible exact zx_b42 (by with_reducible assumption) | with_reducible exact zx_b43 (by with_reducible assumption) | with_reducible exact zx_b33 (by with_reducible assumption) | with_reducible exact zx_b40 (by with_reducible assumption) | with_reducible exact zx_b41 (by with_reducible assumption)) (by first | with_reducible assumption | with_reducible exact zx_in (by with_reducible assumption) | with_reducible exact zx_b10 (by with_reducible assumption) | with_reducible exact zx_b21 (by with_reducible assumption) | with_reducible exact zx_b31 (by with_reducible assumption) | with_reducible exact zx_b32 (by with_reducible assumption) | with_reducible exact zx_b42 (by with_reducible assumption) | with_reducible exact zx_b43 (by with_reducible assumption) | with_reducible exact zx_b33 (by with_reducible assumption) | with_reducible exact zx_b40 (by with_reducible assumption) | with_reducible exact zx_b41 (by with_reducible assumption)) dX0_enter_27 ?_
    refine lv_iadd hx hb dX0_enter_30 ?_
    refine lv_istore_n (lv' := [(1, .int ((zxg_cpp u) + (zx_unsignedPair u ((zxg_pc u) + 1)))), (0, .ref (zxa_this k))]) hx hb dX0_enter_31 rfl hl (by decide) rfl (fun ls hl => ?_)
    refine lv_iload_n hx hb dX0_enter_32 rfl (lv_at hl 0 rfl) ?_
    refine zxK_isWord C hl.1 (by decide) (Nat.le_of_ble_eq_true rfl) dX0_enter_33 ?_
    refine lv_if_eq (tgt := 52) hx hb dX0_enter_36 (by decide) (fun c2 => ?_) (fun c2 => ?_)
    · refine lv_aload_n hx hb dX0_enter_52 rfl (lv_at hl 1 rfl) ?_
      refine zxK_fault C hP hS hl.1 (by decide) (Nat.le_of_ble_eq_true rfl) dX0_enter_53 (fun u3 H locs hu3 hP hS => ?_)
      exact zx_vret C hr hlk hP hS (by subst hu3; exact (if_neg c1).trans ((if_pos c2).trans (rfl))) dX0_enter_56
    · refine lv_aload_n hx hb dX0_enter_39 rfl (lv_at hl 1 rfl) ?_
      refine zxG_words C hP dX0_enter_40 ?_
      refine lv_iload_n hx hb dX0_enter_43 rfl (lv_at hl 0 rfl) ?_
      refine zxL_words C hP (by first | with_reducible assumption | with_reducible exact zx_in (by with_reducible assumption) | with_reducible exact zx_b10 (by with_reducible assumption) | with_reducible exact zx_b21 (by with_reducible assumption) | with_reducible exact zx_b31 (by with_reducible assumption) | with_reducible exact zx_b32 (by with_reducible assumption) | with_reducible exact zx_b42 (by with_reducible assumption) | with_reducible exact zx_b43 (by with_reducible assumption) | with_reducible exact zx_b33 (by with_reducible assumption) | with_reducible exact zx_b40 (by with_reducible assumption) | with_reducible exact zx_b41 (by with_reducible assumption)) dX0_enter_44 ?_
      refine lv_iconst (v := 4) hx hb dX0_enter_45 (by decide) ?_
      refine zxK_areBytes C hl.1 (by decide) (Nat.le_of_ble_eq_true rfl) dX0_enter_46 ?_
      refine lv_if_ne (tgt := 57) hx hb dX0_enter_49 (by decide) (fun c4 => ?_) (fun c4 => ?_)
      · refine lv_aload_n hx hb dX0_enter_57 rfl (lv_at hl 1 rfl) ?_
        refine zxG_words C hP dX0_enter_58 ?_
        refine lv_iload_n hx hb dX0_enter_61 rfl (lv_at hl 0 rfl) ?_
        refine zxL_words C hP (by first | with_reducible assumption | with_reducible exact zx_in (by with_reducible assumption) | with_reducible exact zx_b10 (by with_reducible assumption) | with_reducible exact zx_b21 (by with_reducible assumption) | with_reducible exact zx_b31 (by with_reducible assumption) | with_reducible exact zx_b32 (by with_reducible assumption) | with_reducible exact zx_b42 (by with_reducible assumption) | with_reducible exact zx_b43 (by with_reducible assumption) | with_reducible exact zx_b33 (by with_reducible assumption) | with_reducible exact zx_b40 (by with_reducible assumption) | with_reducible exact zx_b41 (by with_reducible assumption)) dX0_enter_62 ?_
        refine lv_istore_n (lv' := [(2, .int (zxg_words u ((zxg_cpp u) + (zx_unsignedPair u ((zxg_pc u) + 1))).toNatClampNeg)), (1, .int ((zxg_cpp u) + (zx_unsignedPair u ((zxg_pc u) + 1)))), (0, .ref (zxa_this k))]) hx hb dX0_enter_63 rfl hl (by decide) rfl (fun ls hl => ?_)
        refine lv_aload_n hx hb dX0_enter_64 rfl (lv_at hl 2 rfl) ?_
        refine zxG_sp C hP dX0_enter_65 ?_
        refine lv_aload_n hx hb dX0_enter_68 rfl (lv_at hl 2 rfl) ?_
        refine lv_iload_n hx hb dX0_enter_69 rfl (lv_at hl 0 rfl) ?_
        refine zxK_unsignedPair C hP hl.1 (by decide) (Nat.le_of_ble_eq_true rfl) (by first | with_reducible assumption | with_reducible exact zx_in (by with_reducible assumption) | with_reducible exact zx_b10 (by with_reducible assumption) | with_reducible exact zx_b21 (by with_reducible assumption) | with_reducible exact zx_b31 (by with_reducible assumption) | with_reducible exact zx_b32 (by with_reducible assumption) | with_reducible exact zx_b42 (by with_reducible assumption) | with_reducible exact zx_b43 (by with_reducible assumption) | with_reducible exact zx_b33 (by with_reducible assumption) | with_reducible exact zx_b40 (by with_reducible assumption) | with_reducible exact zx_b41 (by with_reducible assumption)) (by first | with_reducible assumption | with_reducible exact zx_in (by with_reducible assumption) | with_reducible exact zx_b10 (by with_reducible assumption) | with_reducible exact zx_b21 (by with_reducible assumption) | with_reducible exact zx_b31 (by with_reducible assumption) | with_reducible exact zx_b32 (by with_reducible assumption) | with_reducible exact zx_b42 (by with_reducible assumption) | with_reducible exact zx_b43 (by with_reducible assumption) | with_reducible exact zx_b33 (by with_reducible assumption) | with_reducible exact zx_b40 (by with_reducible assumption) | with_reducible exact zx_b41 (by with_reducible assumption)) dX0_enter_70 ?_
        refine lv_isub hx hb dX0_enter_73 ?_
        refine lv_iconst (v := 1) hx hb dX0_enter_74 (by decide) ?_
        refine lv_iadd hx hb dX0_enter_75 ?_
        refine lv_istore_n (lv' := [(3, .int (((zxg_sp u) - (zx_unsignedPair u (zxg_words u ((zxg_cpp u) + (zx_unsignedPair u ((zxg_pc u) + 1))).toNatClampNeg))) + 1)), (2, .int (zxg_words u ((zxg_cpp u) + (zx_unsignedPair u ((zxg_pc u) + 1))).toNatClampNeg)), (1, .int ((zxg_cpp u) + (zx_unsignedPair u ((zxg_pc u) + 1)))), (0, .ref (zxa_this k))]) hx hb dX0_enter_76 rfl hl (by decide) rfl (fun ls hl => ?_)
        refine lv_aload_n hx hb dX0_enter_77 rfl (lv_at hl 3 rfl) ?_
        refine zxG_sp C hP dX0_enter_78 ?_
        refine lv_aload_n hx hb dX0_enter_81 rfl (lv_at hl 3 rfl) ?_
        refine lv_iload_n hx hb dX0_enter_82 rfl (lv_at hl 1 rfl) ?_
        refine lv_iconst (v := 2) hx hb dX0_enter_83 (by decide) ?_
        refine lv_iadd hx hb dX0_enter_84 ?_
        refine zxK_unsignedPair C hP hl.1 (by decide) (Nat.le_of_ble_eq_true rfl) (by first | with_reducible assumption | with_reducible exact zx_in (by with_reducible assumption) | with_reducible exact zx_b10 (by with_reducible assumption) | with_reducible exact zx_b21 (by with_reducible assumption) | with_reducible exact zx_b31 (by with_reducible assumption) | with_reducible exact zx_b32 (by with_reducible assumption) | with_reducible exact zx_b42 (by with_reducible assumption) | with_reducible exact zx_b43 (by with_reducible assumption) | with_reducible exact zx_b33 (by with_reducible assumption) | with_reducible exact zx_b40 (by with_reducible assumption) | with_reducible exact zx_b41 (by with_reducible assumption)) (by first | with_reducible assumption | with_reducible exact zx_in (by with_reducible assumption) | with_reducible exact zx_b10 (by with_reducible assumption) | with_reducible exact zx_b21 (by with_reducible assumption) | with_reducible exact zx_b31 (by with_reducible assumption) | with_reducible exact zx_b32 (by with_reducible assumption) | with_reducible exact zx_b42 (by with_reducible assumption) | with_reducible exact zx_b43 (by with_reducible assumption) | with_reducible exact zx_b33 (by with_reducible assumption) | with_reducible exact zx_b40 (by with_reducible assumption) | with_reducible exact zx_b41 (by with_reducible assumption)) dX0_enter_85 ?_
        refine lv_iadd hx hb dX0_enter_88 ?_
        refine lv_iconst (v := 1) hx hb dX0_enter_89 (by decide) ?_
        refine lv_iadd hx hb dX0_enter_90 ?_
        refine lv_istore (lv' := [(4, .int (((zxg_sp u) + (zx_unsignedPair u ((zxg_words u ((zxg_cpp u) + (zx_unsignedPair u ((zxg_pc u) + 1))).toNatClampNeg) + 2))) + 1)), (3, .int (((zxg_sp u) - (zx_unsignedPair u (zxg_words u ((zxg_cpp u) + (zx_unsignedPair u ((zxg_pc u) + 1))).toNatClampNeg))) + 1)), (2, .int (zxg_words u ((zxg_cpp u) + (zx_unsignedPair u ((zxg_pc u) + 1))).toNatClampNeg)), (1, .int ((zxg_cpp u) + (zx_unsignedPair u ((zxg_pc u) + 1)))), (0, .ref (zxa_this k))]) hx hb dX0_enter_91 hl (by decide) rfl (fun ls hl => ?_)
        refine lv_iload_n hx hb dX0_enter_93 rfl (lv_at hl 1 rfl) ?_
        refine zxK_isWord C hl.1 (by decide) (Nat.le_of_ble_eq_true rfl) dX0_enter_94 ?_
        refine lv_if_eq (tgt := 118) hx hb dX0_enter_97 (by decide) (fun c5 => ?_) (fun c5 => ?_)
        · refine lv_aload_n hx hb dX0_enter_118 rfl (lv_at hl 4 rfl) ?_
          refine zxK_fault C hP hS hl.1 (by decide) (Nat.le_of_ble_eq_true rfl) dX0_enter_119 (fun u6 H locs hu6 hP hS => ?_)
          exact zx_vret C hr hlk hP hS (by subst hu6; exact (if_neg c1).trans ((if_neg c2).trans ((if_neg c4).trans ((if_pos c5).trans (rfl))))) dX0_enter_122
        · refine lv_iload hx hb dX0_enter_100 (lv_at hl 0 rfl) ?_
          refine zxK_isWord C hl.1 (by decide) (Nat.le_of_ble_eq_true rfl) dX0_enter_102 ?_
          refine lv_if_eq (tgt := 118) hx hb dX0_enter_105 (by decide) (fun c7 => ?_) (fun c7 => ?_)
          · refine lv_aload_n hx hb dX0_enter_118 rfl (lv_at hl 4 rfl) ?_
            refine zxK_fault C hP hS hl.1 (by decide) (Nat.le_of_ble_eq_true rfl) dX0_enter_119 (fun u8 H locs hu8 hP hS => ?_)
            exact zx_vret C hr hlk hP hS (by subst hu8; exact (if_neg c1).trans ((if_neg c2).trans ((if_neg c4).trans ((if_neg c5).trans ((if_pos c7).trans (rfl)))))) dX0_enter_122
          · refine lv_iload hx hb dX0_enter_108 (lv_at hl 0 rfl) ?_
            refine lv_iconst (v := 1) hx hb dX0_enter_110 (by decide) ?_
            refine lv_iadd hx hb dX0_enter_111 ?_
            refine zxK_isWord C hl.1 (by decide) (Nat.le_of_ble_eq_true rfl) dX0_enter_112 ?_
            refine lv_if_ne (tgt := 123) hx hb dX0_enter_115 (by decide) (fun c9 => ?_) (fun c9 => ?_)
            · refine lv_aload_n hx hb dX0_enter_123 rfl (lv_at hl 4 rfl) ?_
              refine zxG_words C hP dX0_enter_124 ?_
              refine lv_iload_n hx hb dX0_enter_127 rfl (lv_at hl 1 rfl) ?_
              refine lv_iload hx hb dX0_enter_128 (lv_at hl 0 rfl) ?_
              refine zxS_words C hP hS (by first | with_reducible assumption | with_reducible exact zx_in (by with_reducible assumption) | with_reducible exact zx_b10 (by with_reducible assumption) | with_reducible exact zx_b21 (by with_reducible assumption) | with_reducible exact zx_b31 (by with_reducible assumption) | with_reducible exact zx_b32 (by with_reducible assumption) | with_reducible exact zx_b42 (by with_reducible assumption) | with_reducible exact zx_b43 (by with_reducible assumption) | with_reducible exact zx_b33 (by with_reducible assumption) | with_reducible exact zx_b40 (by with_reducible assumption) | with_reducible exact zx_b41 (by with_reducible assumption)) dX0_enter_130 (fun u10 H locs hu10 hP hS => ?_)
              refine lv_aload_n hx hb dX0_enter_131 rfl (lv_at hl 4 rfl) ?_
              refine zxG_words C hP dX0_enter_132 ?_
              refine lv_iload hx hb dX0_enter_135 (lv_at hl 0 rfl) ?_
              refine lv_aload_n hx hb dX0_enter_137 rfl (lv_at hl 4 rfl) ?_
              refine zxG_pc C hP dX0_enter_138 ?_
              refine lv_iconst (v := 3) hx hb dX0_enter_141 (by decide) ?_
              refine lv_iadd hx hb dX0_enter_142 ?_
              refine zxS_words C hP hS (by first | with_reducible assumption | with_reducible exact zx_in (by with_reducible assumption) | with_reducible exact zx_b10 (by with_reducible assumption) | with_reducible exact zx_b21 (by with_reducible assumption) | with_reducible exact zx_b31 (by with_reducible assumption) | with_reducible exact zx_b32 (by with_reducible assumption) | with_reducible exact zx_b42 (by with_reducible assumption) | with_reducible exact zx_b43 (by with_reducible assumption) | with_reducible exact zx_b33 (by with_reducible assumption) | with_reducible exact zx_b40 (by with_reducible assumption) | with_reducible exact zx_b41 (by with_reducible assumption)) dX0_enter_143 (fun u11 H locs hu11 hP hS => ?_)
              refine lv_aload_n hx hb dX0_enter_144 rfl (lv_at hl 4 rfl) ?_
              refine zxG_words C hP dX0_enter_145 ?_
              refine lv_iload hx hb dX0_enter_148 (lv_at hl 0 rfl) ?_
              refine lv_iconst (v := 1) hx hb dX0_enter_150 (by decide) ?_
              refine lv_iadd hx hb dX0_enter_151 ?_
              refine lv_aload_n hx hb dX0_enter_152 rfl (lv_at hl 4 rfl) ?_
              refine zxG_lv C hP dX0_enter_153 ?_
              refine zxS_words C hP hS (by first | with_reducible assumption | with_reducible exact zx_in (by with_reducible assumption) | with_reducible exact zx_b10 (by with_reducible assumption) | with_reducible exact zx_b21 (by with_reducible assumption) | with_reducible exact zx_b31 (by with_reducible assumption) | with_reducible exact zx_b32 (by with_reducible assumption) | with_reducible exact zx_b42 (by with_reducible assumption) | with_reducible exact zx_b43 (by with_reducible assumption) | with_reducible exact zx_b33 (by with_reducible assumption) | with_reducible exact zx_b40 (by with_reducible assumption) | with_reducible exact zx_b41 (by with_reducible assumption)) dX0_enter_156 (fun u12 H locs hu12 hP hS => ?_)
              refine lv_aload_n hx hb dX0_enter_157 rfl (lv_at hl 4 rfl) ?_
              refine lv_iload hx hb dX0_enter_158 (lv_at hl 0 rfl) ?_
              refine lv_iconst (v := 1) hx hb dX0_enter_160 (by decide) ?_
              refine lv_iadd hx hb dX0_enter_161 ?_
              refine zxP_sp C hP hS dX0_enter_162 (fun u13 H locs hu13 hP hS => ?_)
              refine lv_aload_n hx hb dX0_enter_165 rfl (lv_at hl 4 rfl) ?_
              refine lv_iload_n hx hb dX0_enter_166 rfl (lv_at hl 1 rfl) ?_
              refine zxP_lv C hP hS dX0_enter_167 (fun u14 H locs hu14 hP hS => ?_)
              refine lv_aload_n hx hb dX0_enter_170 rfl (lv_at hl 4 rfl) ?_
              refine lv_iload_n hx hb dX0_enter_171 rfl (lv_at hl 1 rfl) ?_
              refine zxP_top C hP hS dX0_enter_172 (fun u15 H locs hu15 hP hS => ?_)
              refine lv_aload_n hx hb dX0_enter_175 rfl (lv_at hl 4 rfl) ?_
              refine lv_iload_n hx hb dX0_enter_176 rfl (lv_at hl 2 rfl) ?_
              refine lv_iconst (v := 4) hx hb dX0_enter_177 (by decide) ?_
              refine lv_iadd hx hb dX0_enter_178 ?_
              refine lv_bipush (v := 23) hx hb dX0_enter_179 (by decide) ?_
              refine zxK_finish C hP hS hl.1 (by decide) (Nat.le_of_ble_eq_true rfl) dX0_enter_181 (fun u16 H locs hu16 hP hS => ?_)
              exact zx_vret C hr hlk hP hS (by subst hu16 hu15 hu14 hu13 hu12 hu11 hu10; exact (if_neg c1).trans ((if_neg c2).trans ((if_neg c4).trans ((if_neg c5).trans ((if_neg c7).trans ((if_neg c9).trans (rfl))))))) dX0_enter_184
            · refine lv_aload_n hx hb dX0_enter_118 rfl (lv_at hl 4 rfl) ?_
              refine zxK_fault C hP hS hl.1 (by decide) (Nat.le_of_ble_eq_true rfl) dX0_enter_119 (fun u17 H locs hu17 hP hS => ?_)
              exact zx_vret C hr hlk hP hS (by subst hu17; exact (if_neg c1).trans ((if_neg c2).trans ((if_neg c4).trans ((if_neg c5).trans ((if_neg c7).trans ((if_pos c9).trans (rfl))))))) dX0_enter_122
      · refine lv_aload_n hx hb dX0_enter_52 rfl (lv_at hl 1 rfl) ?_
        refine zxK_fault C hP hS hl.1 (by decide) (Nat.le_of_ble_eq_true rfl) dX0_enter_53 (fun u18 H locs hu18 hP hS => ?_)
        exact zx_vret C hr hlk hP hS (by subst hu18; exact (if_neg c1).trans ((if_neg c2).trans ((if_pos c4).trans (rfl)))) dX0_enter_56
  · refine lv_aload_n hx hb dX0_enter_11 rfl (lv_at hl 0 rfl) ?_
    refine zxK_fault C hP hS hl.1 (by decide) (Nat.le_of_ble_eq_true rfl) dX0_enter_12 (fun u19 H locs hu19 hP hS => ?_)
    exact zx_vret C hr hlk hP hS (by subst hu19; exact (if_pos c1).trans (rfl)) dX0_enter_15
section
variable {p : Program} {l : Launch} {e : Env} {R : Room} {s : State} {m : MethodId} {args : Array Value} {below : List Frame} {meth : Method} {c : Code} {H : Heap} {locs : List Loc} {Q : State → Prop} {cc : ByteArray} {pc nL : Nat} {ls : Array Slot} {rest : List Value} {k : Zxk} {u : Zxs} {H0 : Heap}
set_option maxHeartbeats 4000000 in
set_option maxRecDepth 100000 in
theorem zxK_enter (C : ZxC p s m args c cc nL k) (hP : ZxP k u H) (hS : va_S (ZxA k) H0 H locs) (hsz : ls.size = nL) (hR : 2 + 1 ≤ R.frames ∧ 8 + (5 + 11) + 40 * 2 ≤ R.locals) (hw : (rest.map fun v => v.category).sum ≤ 8) (hdg : decode cc pc = .ok (.invokevirtual 127, 3)) (kk : ∀ (u1 : Zxs) (H1 : Heap) (locs1 : List Loc), u1 = zx_enter u  → ZxP k u1 H1 → va_S (ZxA k) H0 H1 locs1 → W p l e R s m args below meth c H1 locs1 0 0 Q (F0 m (pc + 3) ls (rest))) : W p l e R s m args below meth c H locs 0 0 Q (F0 m pc ls (.ref (zxa_this k) :: rest)) :=
  zx_callV (y := yX0_enter) (n := 0) (As := []) C (zxM_enter l k C.2.2 u  ) wsX0_step_c_enter wsX0_step_l_enter wsX0_step_i_enter wsX0_step_v_enter rfl (by decide +kernel) hP hS hsz hR hw rfl hdg (fun H1 locs1 hP1 hS1 => kk _ H1 locs1 rfl hP1 hS1)
end
