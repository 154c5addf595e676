
theorem zt_G0 (u : Zts) : ZtG (ztg_words u) 0 (zts_writes u 0) := ⟨0, Nat.le_refl 0, rfl, fun i h => absurd h (Nat.not_lt_zero i), rfl⟩
/-- all noted writes undone -/
def zt_undone (u : Zts) : Zts := zts_words (zts_writes u 0) (zundo (ztg_places u) (ztg_before u) (ztg_writes u).toNatClampNeg (ztg_words u))
theorem zts_writes_self {u : Zts} {x : Int32} (h : ztg_writes u = x) : zts_writes u x = u := by subst h; rfl
theorem zt_c508 {x : Int32} {j : Nat} (a : ¬ x < 0) (b : ¬ 508 < x) (h : j < 4) : vp_in (x + nI j) 512 := by
  obtain ⟨q, hq, rfl⟩ := nI_of a
  have hb : q ≤ 508 := Nat.le_of_not_lt (fun g => b (nI_lt (a := 508) g hq))
  rw [nI_add]
  exact vp_in_nI (by omega) (by decide)
section
variable {p : Program} {l : Launch} {e : Env} {R : Room} {s : State} {m : MethodId} {args : Array Value} {below : List Frame} {meth : Method} {c : Code} {Q : State → Prop} {nL : Nat} {ls : Array Slot} {k : Ztk} {H0 : Heap}
set_option maxHeartbeats 4000000 in
set_option maxRecDepth 100000 in
theorem zt_loop0 (C : ZtC p s m args c cX1_step nL k) (h0 : ls[0]? = some (.val (.ref (zta_this k)))) : ∀ (j : Nat) (u : Zts) (H : Heap) (locs : List Loc), j ≤ 8 → ztg_writes u = nI j → (∀ i, i < j → ∃ q : Nat, q < 256 ∧ ztg_places u i = nI q) →
    ZtP k u H → va_S (ZtA k) H0 H locs → (∀ (u1 : Zts) (H1 : Heap) (locs1 : List Loc), u1 = zt_undone u → ZtP k u1 H1 → va_S (ZtA k) H0 H1 locs1 → W p l e R s m args below meth c H1 locs1 0 0 Q (F0 m 163 ls [])) → W p l e R s m args below meth c H locs 0 0 Q (F0 m 120 ls []) := by
  have hx := C.1.1
  have hb := C.1.2.1
  intro j
  induction j with
  | zero =>
    intro u H locs hj hw hp hP hS kk
    refine lv_aload_n hx hb dX1_step_120 rfl h0 ?_
    refine ztG_writes C hP dX1_step_121 ?_
    refine lv_if_le (tgt := 163) hx hb dX1_step_124 (by decide) (fun _ => ?_) (fun q => absurd (by rw [hw]; decide) q)
    refine kk u H locs ?_ hP hS
    show u = zts_words (zts_writes u 0) (zundo (ztg_places u) (ztg_before u) (ztg_writes u).toNatClampNeg (ztg_words u))
    rw [show (ztg_writes u).toNatClampNeg = 0 by rw [hw]; rfl, zts_writes_self (x := 0) hw]
    rfl
  | succ j ih =>
    intro u H locs hj hw hp hP hS kk
    refine lv_aload_n hx hb dX1_step_120 rfl h0 ?_
    refine ztG_writes C hP dX1_step_121 ?_
    refine lv_if_le (tgt := 163) hx hb dX1_step_124 (by decide) (fun q => absurd q (by rw [hw]; exact nI_nle (Nat.succ_pos j) (by omega))) (fun _ => ?_)
    refine lv_aload_n hx hb dX1_step_127 rfl h0 ?_
    refine lv_dup hx hb dX1_step_128 rfl ?_
    refine ztG_writes C hP dX1_step_129 ?_
    refine lv_iconst (v := 1) hx hb dX1_step_132 (by decide) ?_
    refine lv_isub hx hb dX1_step_133 ?_
    refine ztP_writes C hP hS dX1_step_134 (fun u1 H locs hu1 hP hS => ?_)
    have e1 : ztg_writes u1 = nI j := by rw [hu1]; show ztg_writes u - 1 = nI j; rw [hw, nI_pred]
    obtain ⟨q, hq, eq⟩ := hp j (Nat.lt_succ_self j)
    have e2 : ztg_places u1 (ztg_writes u1).toNatClampNeg = nI q := by rw [e1, nI_clamp (by omega), hu1]; exact eq
    refine lv_aload_n hx hb dX1_step_137 rfl h0 ?_
    refine ztG_words C hP dX1_step_138 ?_
    refine lv_aload_n hx hb dX1_step_141 rfl h0 ?_
    refine ztG_places C hP dX1_step_142 ?_
    refine lv_aload_n hx hb dX1_step_145 rfl h0 ?_
    refine ztG_writes C hP dX1_step_146 ?_
    refine ztL_places C hP (by rw [e1]; exact vp_in_nI (by omega) (by decide)) dX1_step_149 ?_
    refine lv_aload_n hx hb dX1_step_150 rfl h0 ?_
    refine ztG_before C hP dX1_step_151 ?_
    refine lv_aload_n hx hb dX1_step_154 rfl h0 ?_
    refine ztG_writes C hP dX1_step_155 ?_
    refine ztL_before C hP (by rw [e1]; exact vp_in_nI (by omega) (by decide)) dX1_step_158 ?_
    refine ztS_words C hP hS (by rw [e2]; exact vp_in_nI hq (by decide)) dX1_step_159 (fun u2 H locs hu2 hP hS => ?_)
    refine lv_goto (tgt := 120) hx hb dX1_step_160 (by decide) ?_
    refine ih u2 H locs (by omega) (by rw [hu2]; exact e1) (fun i hi => ?_) hP hS (fun u3 H3 locs3 h3 hP3 hS3 => kk u3 H3 locs3 ?_ hP3 hS3)
    · rw [hu2, hu1]; exact hp i (Nat.lt_succ_of_lt hi)
    · rw [h3]
      have e3 : ztg_writes u2 = nI j := by rw [hu2]; exact e1
      unfold zt_undone
      rw [e3, hw, nI_clamp (by omega), nI_clamp (by omega), hu2, e1, nI_clamp (by omega), hu1]
      rfl
theorem zt_loop {H : Heap} {locs : List Loc} {u : Zts} {w0 : Nat → Int32} (C : ZtC p s m args c cX1_step nL k) (h0 : ls[0]? = some (.val (.ref (zta_this k)))) (hG : ZtG w0 8 u) (hP : ZtP k u H) (hS : va_S (ZtA k) H0 H locs)
    (kk : ∀ (u1 : Zts) (H1 : Heap) (locs1 : List Loc), u1 = zt_undone u → ZtP k u1 H1 → va_S (ZtA k) H0 H1 locs1 → W p l e R s m args below meth c H1 locs1 0 0 Q (F0 m 163 ls [])) : W p l e R s m args below meth c H locs 0 0 Q (F0 m 120 ls []) := by
  obtain ⟨j, h1, h2, h3, -⟩ := hG
  exact zt_loop0 C h0 j u H locs h1 h2 h3 hP hS kk
end
def zt_step (u : Zts) : Zts :=
  let u1 := zts_amiss u 0
  let u2 := zts_unknown u1 0
  let u3 := zts_writes u2 0
  let r5 := (zt_byteAt u3 (ztg_pc u3)).1
  let u4 := (zt_byteAt u3 (ztg_pc u3)).2
  if (ztg_amiss u4) = 0 then (
    let r8 := (zt_perform u4 r5).1
    let u7 := (zt_perform u4 r5).2
    if (ztg_amiss u7) = 0 then (
      if (ztg_unknown u7) = 0 then (
        let u25 := zts_pc u7 (ztg_next u7)
        let u26 := zts_cycles u25 ((ztg_cycles u25) + r8)
        let u27 := zts_done u26 ((ztg_done u26) + 1)
        if r5 = 255 then (
          let u30 := zts_state u27 1
          u30)
        else (
          let u29 := zts_state u27 0
          u29))
      else (
        let u18 := zt_undone u7
        let u19 := zts_sp u18 (ztg_sp u)
        let u20 := zts_lv u19 (ztg_lv u)
        let u21 := zts_top u20 (ztg_top u)
        if (ztg_amiss u21) = 0 then (
          let u23 := zts_state u21 2
          u23)
        else (
          let u24 := zts_state u21 3
          u24)))
    else (
      let u10 := zt_undone u7
      let u11 := zts_sp u10 (ztg_sp u)
      let u12 := zts_lv u11 (ztg_lv u)
      let u13 := zts_top u12 (ztg_top u)
      if (ztg_amiss u13) = 0 then (
        let u15 := zts_state u13 2
        u15)
      else (
        let u16 := zts_state u13 3
        u16)))
  else (
    if (ztg_amiss u4) = 0 then (
      if (ztg_unknown u4) = 0 then (
        let u47 := zts_pc u4 (ztg_next u4)
        let u48 := zts_cycles u47 ((ztg_cycles u47) + 0)
        let u49 := zts_done u48 ((ztg_done u48) + 1)
        if r5 = 255 then (
          let u52 := zts_state u49 1
          u52)
        else (
          let u51 := zts_state u49 0
          u51))
      else (
        let u40 := zt_undone u4
        let u41 := zts_sp u40 (ztg_sp u)
        let u42 := zts_lv u41 (ztg_lv u)
        let u43 := zts_top u42 (ztg_top u)
        if (ztg_amiss u43) = 0 then (
          let u45 := zts_state u43 2
          u45)
        else (
          let u46 := zts_state u43 3
          u46)))
    else (
      let u32 := zt_undone u4
      let u33 := zts_sp u32 (ztg_sp u)
      let u34 := zts_lv u33 (ztg_lv u)
      let u35 := zts_top u34 (ztg_top u)
      if (ztg_amiss u35) = 0 then (
        let u37 := zts_state u35 2
        u37)
      else (
        let u38 := zts_state u35 3
        u38)))
set_option maxHeartbeats 4000000 in
set_option maxRecDepth 100000 in
theorem ztM_step (l : Launch) (k : Ztk) (Dk : ZtD k) (u : Zts) : Met l yX1_step (.code yX1_step cX1_step 6 none :: zwT) (zrm 5) (ZtB k [.ref (zta_this k)] u) (ZtQ k none (zt_step u )) 0 0 (ZtA k) := by
  refine ztE_in (by decide) rfl (Nat.le_of_ble_eq_true rfl) Dk ?_
  intro p e s m below meth c ls C hr hlk hP hl
  have hx := C.1.1
  have hb := C.1.2.1
  have hl : lv_has ls 6 [(0, .ref (zta_this k))] := hl
  have hS : va_S (ZtA k) s.heap s.heap [] := va_S.rf
  refine lv_aload_n hx hb dX1_step_0 rfl (lv_at hl 0 rfl) ?_
  refine ztG_sp C hP dX1_step_1 ?_
  refine lv_istore_n (lv' := [(1, .int (ztg_sp u)), (0, .ref (zta_this k))]) hx hb dX1_step_4 rfl hl (by decide) rfl (fun ls hl => ?_)
  refine lv_aload_n hx hb dX1_step_5 rfl (lv_at hl 1 rfl) ?_
  refine ztG_lv C hP dX1_step_6 ?_
  refine lv_istore_n (lv' := [(2, .int (ztg_lv u)), (1, .int (ztg_sp u)), (0, .ref (zta_this k))]) hx hb dX1_step_9 rfl hl (by decide) rfl (fun ls hl => ?_)
  refine lv_aload_n hx hb dX1_step_10 rfl (lv_at hl 2 rfl) ?_
  refine ztG_top C hP dX1_step_11 ?_
  refine lv_istore_n (lv' := [(3, .int (ztg_top u)), (2, .int (ztg_lv u)), (1, .int (ztg_sp u)), (0, .ref (zta_this k))]) hx hb dX1_step_14 rfl hl (by decide) rfl (fun ls hl => ?_)
  refine lv_aload_n hx hb dX1_step_15 rfl (lv_at hl 3 rfl) ?_
  refine lv_iconst (v := 0) hx hb dX1_step_16 (by decide) ?_
  refine ztP_amiss C hP hS rfl rfl dX1_step_17 (fun u1 H locs hu1 hP hS => ?_)
  refine lv_aload_n hx hb dX1_step_20 rfl (lv_at hl 3 rfl) ?_
  refine lv_iconst (v := 0) hx hb dX1_step_21 (by decide) ?_
  refine ztP_unknown C hP hS rfl rfl dX1_step_22 (fun u2 H locs hu2 hP hS => ?_)
  refine lv_aload_n hx hb dX1_step_25 rfl (lv_at hl 3 rfl) ?_
  refine lv_iconst (v := 0) hx hb dX1_step_26 (by decide) ?_
  refine ztP_writes C hP hS dX1_step_27 (fun u3 H locs hu3 hP hS => ?_)
  have hN_u3 : ZtG (ztg_words u2) 0 u3 := by rw [hu3]; exact zt_G0 _
  refine lv_aload_n hx hb dX1_step_30 rfl (lv_at hl 3 rfl) ?_
  refine lv_aload_n hx hb dX1_step_31 rfl (lv_at hl 3 rfl) ?_
  refine ztG_pc C hP dX1_step_32 ?_
  refine ztK_byteAt C hP hS hl.1 (by decide) (Nat.le_of_ble_eq_true rfl) dX1_step_35 (fun r5 u4 H locs hr5 hu4 hP hS => ?_)
  have hN_u4 : ZtG (ztg_words u2) 0 u4 := by rw [hu4]; exact zt_Gle (by decide) (zt_G_byteAt _ hN_u3)
  refine lv_istore (lv' := [(4, .int r5), (3, .int (ztg_top u)), (2, .int (ztg_lv u)), (1, .int (ztg_sp u)), (0, .ref (zta_this k))]) hx hb dX1_step_38 hl (by decide) rfl (fun ls hl => ?_)
  refine lv_aload_n hx hb dX1_step_40 rfl (lv_at hl 4 rfl) ?_
  refine ztG_amiss C hP dX1_step_41 ?_
  refine lv_if_eq (tgt := 51) hx hb dX1_step_44 (by decide) (fun c6 => ?_) (fun c6 => ?_)
  · refine lv_aload_n hx hb dX1_step_51 rfl (lv_at hl 4 rfl) ?_
    refine lv_iload hx hb dX1_step_52 (lv_at hl 0 rfl) ?_
    refine ztK_perform C hP hS hl.1 (by decide) (Nat.le_of_ble_eq_true rfl) (w0 := ztg_words u2) (zt_Gle (by decide) hN_u4) dX1_step_54 (fun r8 u7 H locs hr8 hu7 hP hS => ?_)
    have hN_u7 : ZtG (ztg_words u2) 3 u7 := by rw [hu7]; exact zt_Gle (by decide) (zt_G_perform _ (by decide) hN_u4)
    refine lv_istore (lv' := [(5, .int r8), (4, .int r5), (3, .int (ztg_top u)), (2, .int (ztg_lv u)), (1, .int (ztg_sp u)), (0, .ref (zta_this k))]) hx hb dX1_step_57 hl (by decide) rfl (fun ls hl => ?_)
    refine lv_aload_n hx hb dX1_step_59 rfl (lv_at hl 5 rfl) ?_
    refine ztG_amiss C hP dX1_step_60 ?_
    refine lv_if_ne (tgt := 120) hx hb dX1_step_63 (by decide) (fun c9 => ?_) (fun c9 => ?_)
    · refine zt_loop C (lv_at hl 5 rfl) (zt_Gle (n := 8) (by decide) hN_u7) hP hS (fun u10 H locs hu10 hP hS => ?_)
      refine lv_aload_n hx hb dX1_step_163 rfl (lv_at hl 5 rfl) ?_
      refine lv_iload_n hx hb dX1_step_164 rfl (lv_at hl 4 rfl) ?_
      refine ztP_sp C hP hS dX1_step_165 (fun u11 H locs hu11 hP hS => ?_)
      refine lv_aload_n hx hb dX1_step_168 rfl (lv_at hl 5 rfl) ?_
      refine lv_iload_n hx hb dX1_step_169 rfl (lv_at hl 3 rfl) ?_
      refine ztP_lv C hP hS dX1_step_170 (fun u12 H locs hu12 hP hS => ?_)
      refine lv_aload_n hx hb dX1_step_173 rfl (lv_at hl 5 rfl) ?_
      refine lv_iload_n hx hb dX1_step_174 rfl (lv_at hl 2 rfl) ?_
      refine ztP_top C hP hS dX1_step_175 (fun u13 H locs hu13 hP hS => ?_)
      refine lv_aload_n hx hb dX1_step_178 rfl (lv_at hl 5 rfl) ?_
      refine lv_aload_n hx hb dX1_step_179 rfl (lv_at hl 5 rfl) ?_
      refine ztG_amiss C hP dX1_step_180 ?_
      refine lv_if_eq (tgt := 190) hx hb dX1_step_183 (by decide) (fun c14 => ?_) (fun c14 => ?_)
      · refine lv_iconst (v := 2) hx hb dX1_step_190 (by decide) ?_
        refine ztP_state C hP hS dX1_step_191 (fun u15 H locs hu15 hP hS => ?_)
        exact zt_vret C hr hlk hP hS (by subst hu15 hu13 hu12 hu11 hu10 hu7 hr8 hu4 hr5 hu3 hu2 hu1; first | (unfold zt_step; rw [if_pos c6, if_neg c9, if_pos c14]; done) | exact (if_pos c6).trans ((if_neg c9).trans ((if_pos c14).trans (rfl)))) dX1_step_194
      · refine lv_iconst (v := 3) hx hb dX1_step_186 (by decide) ?_
        refine lv_goto (tgt := 191) hx hb dX1_step_187 (by decide) ?_
        refine ztP_state C hP hS dX1_step_191 (fun u16 H locs hu16 hP hS => ?_)
        exact zt_vret C hr hlk hP hS (by subst hu16 hu13 hu12 hu11 hu10 hu7 hr8 hu4 hr5 hu3 hu2 hu1; first | (unfold zt_step; rw [if_pos c6, if_neg c9, if_neg c14]; done) | exact (if_pos c6).trans ((if_neg c9).trans ((if_neg c14).trans (rfl)))) dX1_step_194
    · refine lv_aload_n hx hb dX1_step_66 rfl (lv_at hl 5 rfl) ?_
      refine ztG_unknown C hP dX1_step_67 ?_
      refine lv_if_ne (tgt := 120) hx hb dX1_step_70 (by decide) (fun c17 => ?_) (fun c17 => ?_)
      · refine zt_loop C (lv_at hl 5 rfl) (zt_Gle (n := 8) (by decide) hN_u7) hP hS (fun u18 H locs hu18 hP hS => ?_)
        refine lv_aload_n hx hb dX1_step_163 rfl (lv_at hl 5 rfl) ?_
        refine lv_iload_n hx hb dX1_step_164 rfl (lv_at hl 4 rfl) ?_
        refine ztP_sp C hP hS dX1_step_165 (fun u19 H locs hu19 hP hS => ?_)
        refine lv_aload_n hx hb dX1_step_168 rfl (lv_at hl 5 rfl) ?_
        refine lv_iload_n hx hb dX1_step_169 rfl (lv_at hl 3 rfl) ?_
        refine ztP_lv C hP hS dX1_step_170 (fun u20 H locs hu20 hP hS => ?_)
        refine lv_aload_n hx hb dX1_step_173 rfl (lv_at hl 5 rfl) ?_
        refine lv_iload_n hx hb dX1_step_174 rfl (lv_at hl 2 rfl) ?_
        refine ztP_top C hP hS dX1_step_175 (fun u21 H locs hu21 hP hS => ?_)
        refine lv_aload_n hx hb dX1_step_178 rfl (lv_at hl 5 rfl) ?_
        refine lv_aload_n hx hb dX1_step_179 rfl (lv_at hl 5 rfl) ?_
        refine ztG_amiss C hP dX1_step_180 ?_
        refine lv_if_eq (tgt := 190) hx hb dX1_step_183 (by decide) (fun c22 => ?_) (fun c22 => ?_)
        · refine lv_iconst (v := 2) hx hb dX1_step_190 (by decide) ?_
          refine ztP_state C hP hS dX1_step_191 (fun u23 H locs hu23 hP hS => ?_)
          exact zt_vret C hr hlk hP hS (by subst hu23 hu21 hu20 hu19 hu18 hu7 hr8 hu4 hr5 hu3 hu2 hu1; first | (unfold zt_step; rw [if_pos c6, if_pos c9, if_neg c17, if_pos c22]; done) | exact (if_pos c6).trans ((if_pos c9).trans ((if_neg c17).trans ((if_pos c22).trans (rfl))))) dX1_step_194
        · refine lv_iconst (v := 3) hx hb dX1_step_186 (by decide) ?_
          refine lv_goto (tgt := 191) hx hb dX1_step_187 (by decide) ?_
          refine ztP_state C hP hS dX1_step_191 (fun u24 H locs hu24 hP hS => ?_)
          exact zt_vret C hr hlk hP hS (by subst hu24 hu21 hu20 hu19 hu18 hu7 hr8 hu4 hr5 hu3 hu2 hu1; first | (unfold zt_step; rw [if_pos c6, if_pos c9, if_neg c17, if_neg c22]; done) | exact (if_pos c6).trans ((if_pos c9).trans ((if_neg c17).trans ((if_neg c22).trans (rfl))))) dX1_step_194
      · refine lv_aload_n hx hb dX1_step_73 rfl (lv_at hl 5 rfl) ?_
        refine lv_aload_n hx hb dX1_step_74 rfl (lv_at hl 5 rfl) ?_
        refine ztG_next C hP dX1_step_75 ?_
        refine ztP_pc C hP hS dX1_step_78 (fun u25 H locs hu25 hP hS => ?_)
        have hN_u25 : ZtG (ztg_words u2) 3 u25 := by rw [hu25]; exact zt_Gs_pc _ hN_u7
        refine lv_aload_n hx hb dX1_step_81 rfl (lv_at hl 5 rfl) ?_
        refine lv_dup hx hb dX1_step_82 rfl ?_
        refine ztG_cycles C hP dX1_step_83 ?_
        refine lv_iload hx hb dX1_step_86 (lv_at hl 0 rfl) ?_
        refine lv_iadd hx hb dX1_step_88 ?_
        refine ztP_cycles C hP hS dX1_step_89 (fun u26 H locs hu26 hP hS => ?_)
        have hN_u26 : ZtG (ztg_words u2) 3 u26 := by rw [hu26]; exact zt_Gs_cycles _ hN_u25
        refine lv_aload_n hx hb dX1_step_92 rfl (lv_at hl 5 rfl) ?_
        refine lv_dup hx hb dX1_step_93 rfl ?_
        refine ztG_done C hP dX1_step_94 ?_
        refine lv_iconst (v := 1) hx hb dX1_step_97 (by decide) ?_
        refine lv_iadd hx hb dX1_step_98 ?_
        refine ztP_done C hP hS dX1_step_99 (fun u27 H locs hu27 hP hS => ?_)
        have hN_u27 : ZtG (ztg_words u2) 3 u27 := by rw [hu27]; exact zt_Gs_done _ hN_u26
        refine lv_aload_n hx hb dX1_step_102 rfl (lv_at hl 5 rfl) ?_
        refine lv_iload hx hb dX1_step_103 (lv_at hl 1 rfl) ?_
        refine lv_sipush (v := 255) hx hb dX1_step_105 (by decide) ?_
        refine lv_icmp_ne (tgt := 115) hx hb dX1_step_108 (by decide) (fun c28 => ?_) (fun c28 => ?_)
        · refine lv_iconst (v := 0) hx hb dX1_step_115 (by decide) ?_
          refine ztP_state C hP hS dX1_step_116 (fun u29 H locs hu29 hP hS => ?_)
          have hN_u29 : ZtG (ztg_words u2) 3 u29 := by rw [hu29]; exact zt_Gs_state _ hN_u27
          exact zt_vret C hr hlk hP hS (by subst hu29 hu27 hu26 hu25 hu7 hr8 hu4 hr5 hu3 hu2 hu1; first | (unfold zt_step; rw [if_pos c6, if_pos c9, if_pos c17, if_neg c28]; done) | exact (if_pos c6).trans ((if_pos c9).trans ((if_pos c17).trans ((if_neg c28).trans (rfl))))) dX1_step_119
        · refine lv_iconst (v := 1) hx hb dX1_step_111 (by decide) ?_
          refine lv_goto (tgt := 116) hx hb dX1_step_112 (by decide) ?_
          refine ztP_state C hP hS dX1_step_116 (fun u30 H locs hu30 hP hS => ?_)
          have hN_u30 : ZtG (ztg_words u2) 3 u30 := by rw [hu30]; exact zt_Gs_state _ hN_u27
          exact zt_vret C hr hlk hP hS (by subst hu30 hu27 hu26 hu25 hu7 hr8 hu4 hr5 hu3 hu2 hu1; first | (unfold zt_step; rw [if_pos c6, if_pos c9, if_pos c17, if_pos c28]; done) | exact (if_pos c6).trans ((if_pos c9).trans ((if_pos c17).trans ((if_pos c28).trans (rfl))))) dX1_step_119
  · refine lv_iconst (v := 0) hx hb dX1_step_47 (by decide) ?_
    refine lv_goto (tgt := 57) hx hb dX1_step_48 (by decide) ?_
    refine lv_istore (lv' := [(5, .int 0), (4, .int r5), (3, .int (ztg_top u)), (2, .int (ztg_lv u)), (1, .int (ztg_sp u)), (0, .ref (zta_this k))]) hx hb dX1_step_57 hl (by decide) rfl (fun ls hl => ?_)
    refine lv_aload_n hx hb dX1_step_59 rfl (lv_at hl 5 rfl) ?_
    refine ztG_amiss C hP dX1_step_60 ?_
    refine lv_if_ne (tgt := 120) hx hb dX1_step_63 (by decide) (fun c31 => ?_) (fun c31 => ?_)
    · refine zt_loop C (lv_at hl 5 rfl) (zt_Gle (n := 8) (by decide) hN_u4) hP hS (fun u32 H locs hu32 hP hS => ?_)
      refine lv_aload_n hx hb dX1_step_163 rfl (lv_at hl 5 rfl) ?_
      refine lv_iload_n hx hb dX1_step_164 rfl (lv_at hl 4 rfl) ?_
      refine ztP_sp C hP hS dX1_step_165 (fun u33 H locs hu33 hP hS => ?_)
      refine lv_aload_n hx hb dX1_step_168 rfl (lv_at hl 5 rfl) ?_
      refine lv_iload_n hx hb dX1_step_169 rfl (lv_at hl 3 rfl) ?_
      refine ztP_lv C hP hS dX1_step_170 (fun u34 H locs hu34 hP hS => ?_)
      refine lv_aload_n hx hb dX1_step_173 rfl (lv_at hl 5 rfl) ?_
      refine lv_iload_n hx hb dX1_step_174 rfl (lv_at hl 2 rfl) ?_
      refine ztP_top C hP hS dX1_step_175 (fun u35 H locs hu35 hP hS => ?_)
      refine lv_aload_n hx hb dX1_step_178 rfl (lv_at hl 5 rfl) ?_
      refine lv_aload_n hx hb dX1_step_179 rfl (lv_at hl 5 rfl) ?_
      refine ztG_amiss C hP dX1_step_180 ?_
      refine lv_if_eq (tgt := 190) hx hb dX1_step_183 (by decide) (fun c36 => ?_) (fun c36 => ?_)
      · refine lv_iconst (v := 2) hx hb dX1_step_190 (by decide) ?_
        refine ztP_state C hP hS dX1_step_191 (fun u37 H locs hu37 hP hS => ?_)
        exact zt_vret C hr hlk hP hS (by subst hu37 hu35 hu34 hu33 hu32 hu4 hr5 hu3 hu2 hu1; first | (unfold zt_step; rw [if_neg c6, if_neg c31, if_pos c36]; done) | exact (if_neg c6).trans ((if_neg c31).trans ((if_pos c36).trans (rfl)))) dX1_step_194
      · refine lv_iconst (v := 3) hx hb dX1_step_186 (by decide) ?_
        refine lv_goto (tgt := 191) hx hb dX1_step_187 (by decide) ?_
        refine ztP_state C hP hS dX1_step_191 (fun u38 H locs hu38 hP hS => ?_)
        exact zt_vret C hr hlk hP hS (by subst hu38 hu35 hu34 hu33 hu32 hu4 hr5 hu3 hu2 hu1; first | (unfold zt_step; rw [if_neg c6, if_neg c31, if_neg c36]; done) | exact (if_neg c6).trans ((if_neg c31).trans ((if_neg c36).trans (rfl)))) dX1_step_194
    · refine lv_aload_n hx hb dX1_step_66 rfl (lv_at hl 5 rfl) ?_
      refine ztG_unknown C hP dX1_step_67 ?_
      refine lv_if_ne (tgt := 120) hx hb dX1_step_70 (by decide) (fun c39 => ?_) (fun c39 => ?_)
      · refine zt_loop C (lv_at hl 5 rfl) (zt_Gle (n := 8) (by decide) hN_u4) hP hS (fun u40 H locs hu40 hP hS => ?_)
        refine lv_aload_n hx hb dX1_step_163 rfl (lv_at hl 5 rfl) ?_
        refine lv_iload_n hx hb dX1_step_164 rfl (lv_at hl 4 rfl) ?_
        refine ztP_sp C hP hS dX1_step_165 (fun u41 H locs hu41 hP hS => ?_)
        refine lv_aload_n hx hb dX1_step_168 rfl (lv_at hl 5 rfl) ?_
        refine lv_iload_n hx hb dX1_step_169 rfl (lv_at hl 3 rfl) ?_
        refine ztP_lv C hP hS dX1_step_170 (fun u42 H locs hu42 hP hS => ?_)
        refine lv_aload_n hx hb dX1_step_173 rfl (lv_at hl 5 rfl) ?_
        refine lv_iload_n hx hb dX1_step_174 rfl (lv_at hl 2 rfl) ?_
        refine ztP_top C hP hS dX1_step_175 (fun u43 H locs hu43 hP hS => ?_)
        refine lv_aload_n hx hb dX1_step_178 rfl (lv_at hl 5 rfl) ?_
        refine lv_aload_n hx hb dX1_step_179 rfl (lv_at hl 5 rfl) ?_
        refine ztG_amiss C hP dX1_step_180 ?_
        refine lv_if_eq (tgt := 190) hx hb dX1_step_183 (by decide) (fun c44 => ?_) (fun c44 => ?_)
        · refine lv_iconst (v := 2) hx hb dX1_step_190 (by decide) ?_
          refine ztP_state C hP hS dX1_step_191 (fun u45 H locs hu45 hP hS => ?_)
          exact zt_vret C hr hlk hP hS (by subst hu45 hu43 hu42 hu41 hu40 hu4 hr5 hu3 hu2 hu1; first | (unfold zt_step; rw [if_neg c6, if_pos c31, if_neg c39, if_pos c44]; done) | exact (if_neg c6).trans ((if_pos c31).trans ((if_neg c39).trans ((if_pos c44).trans (rfl))))) dX1_step_194
        · refine lv_iconst (v := 3) hx hb dX1_step_186 (by decide) ?_
          refine lv_goto (tgt := 191) hx hb dX1_step_187 (by decide) ?_
          refine ztP_state C hP hS dX1_step_191 (fun u46 H locs hu46 hP hS => ?_)
          exact zt_vret C hr hlk hP hS (by subst hu46 hu43 hu42 hu41 hu40 hu4 hr5 hu3 hu2 hu1; first | (unfold zt_step; rw [if_neg c6, if_pos c31, if_neg c39, if_neg c44]; done) | exact (if_neg c6).trans ((if_pos c31).trans ((if_neg c39).trans ((if_neg c44).trans (rfl))))) dX1_step_194
      · refine lv_aload_n hx hb dX1_step_73 rfl (lv_at hl 5 rfl) ?_
        refine lv_aload_n hx hb dX1_step_74 rfl (lv_at hl 5 rfl) ?_
        refine ztG_next C hP dX1_step_75 ?_
        refine ztP_pc C hP hS dX1_step_78 (fun u47 H locs hu47 hP hS => ?_)
        have hN_u47 : ZtG (ztg_words u2) 0 u47 := by rw [hu47]; exact zt_Gs_pc _ hN_u4
        refine lv_aload_n hx hb dX1_step_81 rfl (lv_at hl 5 rfl) ?_
        refine lv_dup hx hb dX1_step_82 rfl ?_
        refine ztG_cycles C hP dX1_step_83 ?_
        refine lv_iload hx hb dX1_step_86 (lv_at hl 0 rfl) ?_
        refine lv_iadd hx hb dX1_step_88 ?_
        refine ztP_cycles C hP hS dX1_step_89 (fun u48 H locs hu48 hP hS => ?_)
        have hN_u48 : ZtG (ztg_words u2) 0 u48 := by rw [hu48]; exact zt_Gs_cycles _ hN_u47
        refine lv_aload_n hx hb dX1_step_92 rfl (lv_at hl 5 rfl) ?_
        refine lv_dup hx hb dX1_step_93 rfl ?_
        refine ztG_done C hP dX1_step_94 ?_
        refine lv_iconst (v := 1) hx hb dX1_step_97 (by decide) ?_
        refine lv_iadd hx hb dX1_step_98 ?_
        refine ztP_done C hP hS dX1_step_99 (fun u49 H locs hu49 hP hS => ?_)
        have hN_u49 : ZtG (ztg_words u2) 0 u49 := by rw [hu49]; exact zt_Gs_done _ hN_u48
        refine lv_aload_n hx hb dX1_step_102 rfl (lv_at hl 5 rfl) ?_
        refine lv_iload hx hb dX1_step_103 (lv_at hl 1 rfl) ?_
        refine lv_sipush (v := 255) hx hb dX1_step_105 (by decide) ?_
        refine lv_icmp_ne (tgt := 115) hx hb dX1_step_108 (by decide) (fun c50 => ?_) (fun c50 => ?_)
        · refine lv_iconst (v := 0) hx hb dX1_step_115 (by decide) ?_
          refine ztP_state C hP hS dX1_step_116 (fun u51 H locs hu51 hP hS => ?_)
          have hN_u51 : ZtG (ztg_words u2) 0 u51 := by rw [hu51]; exact zt_Gs_state _ hN_u49
          exact zt_vret C hr hlk hP hS (by subst hu51 hu49 hu48 hu47 hu4 hr5 hu3 hu2 hu1; first | (unfold zt_step; rw [if_neg c6, if_pos c31, if_pos c39, if_neg c50]; done) | exact (if_neg c6).trans ((if_pos c31).trans ((if_pos c39).trans ((if_neg c50).trans (rfl))))) dX1_step_119
        · refine lv_iconst (v := 1) hx hb dX1_step_111 (by decide) ?_
          refine lv_goto (tgt := 116) hx hb dX1_step_112 (by decide) ?_
          refine ztP_state C hP hS dX1_step_116 (fun u52 H locs hu52 hP hS => ?_)
          have hN_u52 : ZtG (ztg_words u2) 0 u52 := by rw [hu52]; exact zt_Gs_state _ hN_u49
          exact zt_vret C hr hlk hP hS (by subst hu52 hu49 hu48 hu47 hu4 hr5 hu3 hu2 hu1; first | (unfold zt_step; rw [if_neg c6, if_pos c31, if_pos c39, if_pos c50]; done) | exact (if_neg c6).trans ((if_pos c31).trans ((if_pos c39).trans ((if_pos c50).trans (rfl))))) dX1_step_119
def zt_code (u : Zts) (a1 a2 : Int32) : Zts :=
  if a1 < 0 then (
    let u2 := zts_thrown u 1
    u2)
  else (
    if 508 < a1 then (
      let u4 := zts_thrown u 1
      u4)
    else (
      let u5 := zts_thrown u 0
      let u6 := zts_bytes u5 (upd (ztg_bytes u5) (a1 + 0).toNatClampNeg ((a2 >>> ((8 * 0) &&& 31)) &&& 255))
      let u7 := zts_bytes u6 (upd (ztg_bytes u6) (a1 + 1).toNatClampNeg ((a2 >>> ((8 * 1) &&& 31)) &&& 255))
      let u8 := zts_bytes u7 (upd (ztg_bytes u7) (a1 + 2).toNatClampNeg ((a2 >>> ((8 * 2) &&& 31)) &&& 255))
      let u9 := zts_bytes u8 (upd (ztg_bytes u8) (a1 + 3).toNatClampNeg ((a2 >>> ((8 * 3) &&& 31)) &&& 255))
      u9))
set_option maxHeartbeats 4000000 in
set_option maxRecDepth 100000 in
theorem ztM_code (l : Launch) (k : Ztk) (Dk : ZtD k) (u : Zts) (a1 a2 : Int32) : Met l yX1_code (.code yX1_code cX1_code 4 none :: zwT) (zrm 0) (ZtB k [.ref (zta_this k), .int a1, .int a2] u) (ZtQ k none (zt_code u a1 a2)) 0 0 (ZtA k) := by
  refine ztE_in (by decide) rfl (Nat.le_of_ble_eq_true rfl) Dk ?_
  intro p e s m below meth c ls C hr hlk hP hl
  have hx := C.1.1
  have hb := C.1.2.1
  have hl : lv_has ls 4 [(0, .ref (zta_this k)), (1, .int a1), (2, .int a2)] := hl
  have hS : va_S (ZtA k) s.heap s.heap [] := va_S.rf
  refine lv_aload_n hx hb dX1_code_0 rfl (lv_at hl 0 rfl) ?_
  refine lv_iload_n hx hb dX1_code_1 rfl (lv_at hl 1 rfl) ?_
  refine lv_if_lt (tgt := 16) hx hb dX1_code_2 (by decide) (fun c1 => ?_) (fun c1 => ?_)
  · refine lv_iconst (v := 1) hx hb dX1_code_16 (by decide) ?_
    refine ztP_thrown C hP hS dX1_code_17 (fun u2 H locs hu2 hP hS => ?_)
    refine lv_iconst (v := 0) hx hb dX1_code_20 (by decide) ?_
    refine lv_istore_n (lv' := [(3, .int 0), (0, .ref (zta_this k)), (1, .int a1), (2, .int a2)]) hx hb dX1_code_21 rfl hl (by decide) rfl (fun ls hl => ?_)
    refine lv_iload_n hx hb dX1_code_22 rfl (lv_at hl 0 rfl) ?_
    refine lv_iconst (v := 4) hx hb dX1_code_23 (by decide) ?_
    refine lv_icmp_ge (tgt := 58) hx hb dX1_code_24 (by decide) (fun q => absurd q (by decide)) (fun _ => ?_)
    refine lv_aload_n hx hb dX1_code_27 rfl (lv_at hl 1 rfl) ?_
    refine ztG_thrown C hP dX1_code_28 ?_
    refine lv_if_ne (tgt := 58) hx hb dX1_code_31 (by decide) (fun _ => ?_) (fun q => absurd (show (1 : Int32) = 0 by subst hu2; exact q) (by decide))
    exact zt_vret C hr hlk hP hS (by subst hu2; first | (unfold zt_code; rw [if_pos c1]; done) | exact (if_pos c1).trans (rfl)) dX1_code_58
  · refine lv_iload_n hx hb dX1_code_5 rfl (lv_at hl 1 rfl) ?_
    refine lv_sipush (v := 508) hx hb dX1_code_6 (by decide) ?_
    refine lv_icmp_gt (tgt := 16) hx hb dX1_code_9 (by decide) (fun c3 => ?_) (fun c3 => ?_)
    · refine lv_iconst (v := 1) hx hb dX1_code_16 (by decide) ?_
      refine ztP_thrown C hP hS dX1_code_17 (fun u4 H locs hu4 hP hS => ?_)
      refine lv_iconst (v := 0) hx hb dX1_code_20 (by decide) ?_
      refine lv_istore_n (lv' := [(3, .int 0), (0, .ref (zta_this k)), (1, .int a1), (2, .int a2)]) hx hb dX1_code_21 rfl hl (by decide) rfl (fun ls hl => ?_)
      refine lv_iload_n hx hb dX1_code_22 rfl (lv_at hl 0 rfl) ?_
      refine lv_iconst (v := 4) hx hb dX1_code_23 (by decide) ?_
      refine lv_icmp_ge (tgt := 58) hx hb dX1_code_24 (by decide) (fun q => absurd q (by decide)) (fun _ => ?_)
      refine lv_aload_n hx hb dX1_code_27 rfl (lv_at hl 1 rfl) ?_
      refine ztG_thrown C hP dX1_code_28 ?_
      refine lv_if_ne (tgt := 58) hx hb dX1_code_31 (by decide) (fun _ => ?_) (fun q => absurd (show (1 : Int32) = 0 by subst hu4; exact q) (by decide))
      exact zt_vret C hr hlk hP hS (by subst hu4; first | (unfold zt_code; rw [if_neg c1, if_pos c3]; done) | exact (if_neg c1).trans ((if_pos c3).trans (rfl))) dX1_code_58
    · refine lv_iconst (v := 0) hx hb dX1_code_12 (by decide) ?_
      refine lv_goto (tgt := 17) hx hb dX1_code_13 (by decide) ?_
      refine ztP_thrown C hP hS dX1_code_17 (fun u5 H locs hu5 hP hS => ?_)
      refine lv_iconst (v := 0) hx hb dX1_code_20 (by decide) ?_
      refine lv_istore_n (lv' := [(3, .int 0), (0, .ref (zta_this k)), (1, .int a1), (2, .int a2)]) hx hb dX1_code_21 rfl hl (by decide) rfl (fun ls hl => ?_)
      refine lv_iload_n hx hb dX1_code_22 rfl (lv_at hl 0 rfl) ?_
      refine lv_iconst (v := 4) hx hb dX1_code_23 (by decide) ?_
      refine lv_icmp_ge (tgt := 58) hx hb dX1_code_24 (by decide) (fun q => absurd q (by decide)) (fun _ => ?_)
      refine lv_aload_n hx hb dX1_code_27 rfl (lv_at hl 1 rfl) ?_
      refine ztG_thrown C hP dX1_code_28 ?_
      refine lv_if_ne (tgt := 58) hx hb dX1_code_31 (by decide) (fun q => absurd (show ¬ ((0 : Int32) = 0) by subst hu5; exact q) (by decide)) (fun _ => ?_)
      refine lv_aload_n hx hb dX1_code_34 rfl (lv_at hl 1 rfl) ?_
      refine ztG_bytes C hP dX1_code_35 ?_
      refine lv_iload_n hx hb dX1_code_38 rfl (lv_at hl 2 rfl) ?_
      refine lv_iload_n hx hb dX1_code_39 rfl (lv_at hl 0 rfl) ?_
      refine lv_iadd hx hb dX1_code_40 ?_
      refine lv_iload_n hx hb dX1_code_41 rfl (lv_at hl 3 rfl) ?_
      refine lv_bipush (v := 8) hx hb dX1_code_42 (by decide) ?_
      refine lv_iload_n hx hb dX1_code_44 rfl (lv_at hl 0 rfl) ?_
      refine lv_imul hx hb dX1_code_45 ?_
      refine lv_ishr hx hb dX1_code_46 ?_
      refine lv_sipush (v := 255) hx hb dX1_code_47 (by decide) ?_
      refine lv_iand hx hb dX1_code_50 ?_
      refine ztS_bytes C hP hS (by subst hu5; exact zt_c508 (by with_reducible assumption) (by with_reducible assumption) (by decide)) dX1_code_51 (fun u6 H locs hu6 hP hS => ?_)
      refine lv_iinc (v := 1) (lv' := [(3, .int 1), (0, .ref (zta_this k)), (1, .int a1), (2, .int a2)]) hx hb dX1_code_52 hl (k := 0) rfl (by decide) (by decide) rfl (fun ls hl => ?_)
      refine lv_goto (tgt := 22) hx hb dX1_code_55 (by decide) ?_
      refine lv_iload_n hx hb dX1_code_22 rfl (lv_at hl 0 rfl) ?_
      refine lv_iconst (v := 4) hx hb dX1_code_23 (by decide) ?_
      refine lv_icmp_ge (tgt := 58) hx hb dX1_code_24 (by decide) (fun q => absurd q (by decide)) (fun _ => ?_)
      refine lv_aload_n hx hb dX1_code_27 rfl (lv_at hl 1 rfl) ?_
      refine ztG_thrown C hP dX1_code_28 ?_
      refine lv_if_ne (tgt := 58) hx hb dX1_code_31 (by decide) (fun q => absurd (show ¬ ((0 : Int32) = 0) by subst hu6 hu5; exact q) (by decide)) (fun _ => ?_)
      refine lv_aload_n hx hb dX1_code_34 rfl (lv_at hl 1 rfl) ?_
      refine ztG_bytes C hP dX1_code_35 ?_
      refine lv_iload_n hx hb dX1_code_38 rfl (lv_at hl 2 rfl) ?_
      refine lv_iload_n hx hb dX1_code_39 rfl (lv_at hl 0 rfl) ?_
      refine lv_iadd hx hb dX1_code_40 ?_
      refine lv_iload_n hx hb dX1_code_41 rfl (lv_at hl 3 rfl) ?_
      refine lv_bipush (v := 8) hx hb dX1_code_42 (by decide) ?_
      refine lv_iload_n hx hb dX1_code_44 rfl (lv_at hl 0 rfl) ?_
      refine lv_imul hx hb dX1_code_45 ?_
      refine lv_ishr hx hb dX1_code_46 ?_
      refine lv_sipush (v := 255) hx hb dX1_code_47 (by decide) ?_
      refine lv_iand hx hb dX1_code_50 ?_
      refine ztS_bytes C hP hS (by subst hu6 hu5; exact zt_c508 (by with_reducible assumption) (by with_reducible assumption) (by decide)) dX1_code_51 (fun u7 H locs hu7 hP hS => ?_)
      refine lv_iinc (v := 2) (lv' := [(3, .int 2), (0, .ref (zta_this k)), (1, .int a1), (2, .int a2)]) hx hb dX1_code_52 hl (k := 0) rfl (by decide) (by decide) rfl (fun ls hl => ?_)
      refine lv_goto (tgt := 22) hx hb dX1_code_55 (by decide) ?_
      refine lv_iload_n hx hb dX1_code_22 rfl (lv_at hl 0 rfl) ?_
      refine lv_iconst (v := 4) hx hb dX1_code_23 (by decide) ?_
      refine lv_icmp_ge (tgt := 58) hx hb dX1_code_24 (by decide) (fun q => absurd q (by decide)) (fun _ => ?_)
      refine lv_aload_n hx hb dX1_code_27 rfl (lv_at hl 1 rfl) ?_
      refine ztG_thrown C hP dX1_code_28 ?_
      refine lv_if_ne (tgt := 58) hx hb dX1_code_31 (by decide) (fun q => absurd (show ¬ ((0 : Int32) = 0) by subst hu7 hu6 hu5; exact q) (by decide)) (fun _ => ?_)
      refine lv_aload_n hx hb dX1_code_34 rfl (lv_at hl 1 rfl) ?_
      refine ztG_bytes C hP dX1_code_35 ?_
      refine lv_iload_n hx hb dX1_code_38 rfl (lv_at hl 2 rfl) ?_
      refine lv_iload_n hx hb dX1_code_39 rfl (lv_at hl 0 rfl) ?_
      refine lv_iadd hx hb dX1_code_40 ?_
      refine lv_iload_n hx hb dX1_code_41 rfl (lv_at hl 3 rfl) ?_
      refine lv_bipush (v := 8) hx hb dX1_code_42 (by decide) ?_
      refine lv_iload_n hx hb dX1_code_44 rfl (lv_at hl 0 rfl) ?_
      refine lv_imul hx hb dX1_code_45 ?_
      refine lv_ishr hx hb dX1_code_46 ?_
      refine lv_sipush (v := 255) hx hb dX1_code_47 (by decide) ?_
      refine lv_iand hx hb dX1_code_50 ?_
      refine ztS_bytes C hP hS (by subst hu7 hu6 hu5; exact zt_c508 (by with_reducible assumption) (by with_reducible assumption) (by decide)) dX1_code_51 (fun u8 H locs hu8 hP hS => ?_)
      refine lv_iinc (v := 3) (lv' := [(3, .int 3), (0, .ref (zta_this k)), (1, .int a1), (2, .int a2)]) hx hb dX1_code_52 hl (k := 0) rfl (by decide) (by decide) rfl (fun ls hl => ?_)
      refine lv_goto (tgt := 22) hx hb dX1_code_55 (by decide) ?_
      refine lv_iload_n hx hb dX1_code_22 rfl (lv_at hl 0 rfl) ?_
      refine lv_iconst (v := 4) hx hb dX1_code_23 (by decide) ?_
      refine lv_icmp_ge (tgt := 58) hx hb dX1_code_24 (by decide) (fun q => absurd q (by decide)) (fun _ => ?_)
      refine lv_aload_n hx hb dX1_code_27 rfl (lv_at hl 1 rfl) ?_
      refine ztG_thrown C hP dX1_code_28 ?_
      refine lv_if_ne (tgt := 58) hx hb dX1_code_31 (by decide) (fun q => absurd (show ¬ ((0 : Int32) = 0) by subst hu8 hu7 hu6 hu5; exact q) (by decide)) (fun _ => ?_)
      refine lv_aload_n hx hb dX1_code_34 rfl (lv_at hl 1 rfl) ?_
      refine ztG_bytes C hP dX1_code_35 ?_
      refine lv_iload_n hx hb dX1_code_38 rfl (lv_at hl 2 rfl) ?_
      refine lv_iload_n hx hb dX1_code_39 rfl (lv_at hl 0 rfl) ?_
      refine lv_iadd hx hb dX1_code_40 ?_
      refine lv_iload_n hx hb dX1_code_41 rfl (lv_at hl 3 rfl) ?_
      refine lv_bipush (v := 8) hx hb dX1_code_42 (by decide) ?_
      refine lv_iload_n hx hb dX1_code_44 rfl (lv_at hl 0 rfl) ?_
      refine lv_imul hx hb dX1_code_45 ?_
      refine lv_ishr hx hb dX1_code_46 ?_
      refine lv_sipush (v := 255) hx hb dX1_code_47 (by decide) ?_
      refine lv_iand hx hb dX1_code_50 ?_
      refine ztS_bytes C hP hS (by subst hu8 hu7 hu6 hu5; exact zt_c508 (by with_reducible assumption) (by with_reducible assumption) (by decide)) dX1_code_51 (fun u9 H locs hu9 hP hS => ?_)
      refine lv_iinc (v := 4) (lv' := [(3, .int 4), (0, .ref (zta_this k)), (1, .int a1), (2, .int a2)]) hx hb dX1_code_52 hl (k := 0) rfl (by decide) (by decide) rfl (fun ls hl => ?_)
      refine lv_goto (tgt := 22) hx hb dX1_code_55 (by decide) ?_
      refine lv_iload_n hx hb dX1_code_22 rfl (lv_at hl 0 rfl) ?_
      refine lv_iconst (v := 4) hx hb dX1_code_23 (by decide) ?_
      refine lv_icmp_ge (tgt := 58) hx hb dX1_code_24 (by decide) (fun _ => ?_) (fun q => absurd q (by decide))
      exact zt_vret C hr hlk hP hS (by subst hu9 hu8 hu7 hu6 hu5; first | (unfold zt_code; rw [if_neg c1, if_neg c3]; done) | exact (if_neg c1).trans ((if_neg c3).trans (rfl))) dX1_code_58
