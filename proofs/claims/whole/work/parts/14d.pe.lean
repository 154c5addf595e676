
set_option maxHeartbeats 4000000 in
set_option maxRecDepth 100000 in
/-- ONE STEP OF BOTH -/
theorem zstep {u : Zxs} {v : Zts} (R : Zrel u v) (Y : Zbyt u) (S0 : zxg_state u = 0) : Zrel (zx_step u) (zt_step v) ∧ Zbyt (zx_step u) := by
  unfold zt_step
  dsimp only
  have R3 : Zrel u (zts_writes (zts_unknown (zts_amiss v 0) 0) 0) := R
  have A3 : ztg_amiss (zts_writes (zts_unknown (zts_amiss v 0) 0) 0) = 0 := rfl
  have N3 : ztg_unknown (zts_writes (zts_unknown (zts_amiss v 0) 0) 0) = 0 := rfl
  have G3 : ZtG (ztg_words (zts_writes (zts_unknown (zts_amiss v 0) 0) 0)) 0 (zts_writes (zts_unknown (zts_amiss v 0) 0) 0) := zt_G0 (zts_unknown (zts_amiss v 0) 0)
  have e1 : ztg_sp v = ztg_sp (zts_writes (zts_unknown (zts_amiss v 0) 0) 0) := rfl
  have e2 : ztg_lv v = ztg_lv (zts_writes (zts_unknown (zts_amiss v 0) 0) 0) := rfl
  have e3 : ztg_top v = ztg_top (zts_writes (zts_unknown (zts_amiss v 0) 0) 0) := rfl
  rw [e1, e2, e3]
  generalize zts_writes (zts_unknown (zts_amiss v 0) 0) 0 = w at R3 A3 N3 G3 ⊢
  rw [R3.2.2.1]
  have Ab := zt_A_byteAt w (zxg_pc u)
  have Rb := R3.byteAt (zxg_pc u)
  have Gb := zt_G_byteAt (zxg_pc u) G3
  have Nb := zn_byteAt N3 (zxg_pc u)
  by_cases hB : zinB (zxg_pc u)
  · have Am := Ab.mpr ⟨A3, hB⟩
    rw [if_pos Am, zv_ub R3 hB]
    have hpb := zt_P_byteAt w (zxg_pc u)
    have hsp : ztg_sp (zt_byteAt w (zxg_pc u)).2 = ztg_sp w := by simp only [zt_P_byteAt]
    have hlv : ztg_lv (zt_byteAt w (zxg_pc u)).2 = ztg_lv w := by simp only [zt_P_byteAt]
    have htp : ztg_top (zt_byteAt w (zxg_pc u)).2 = ztg_top w := by simp only [zt_P_byteAt]
    have hwd : ztg_words (zt_byteAt w (zxg_pc u)).2 = ztg_words w := by simp only [zt_P_byteAt]
    rw [← hsp, ← hlv, ← htp]
    rw [← hwd] at Gb
    clear hpb hsp hlv htp hwd Ab
    generalize (zt_byteAt w (zxg_pc u)).2 = x at Rb Gb Nb Am ⊢
    by_cases h255 : zx_unsignedByte u (zxg_pc u) = 255
    · have hp : zt_perform x (zx_unsignedByte u (zxg_pc u)) = (2, zts_next (zts_next x (ztg_pc x + 1)) (ztg_pc x)) := by
        rw [h255]; unfold zt_perform
        simp only [show ¬ ((255 : Int32) = 0) from by decide, show ¬ ((255 : Int32) = 16) from by decide, show ¬ ((255 : Int32) = 19) from by decide, show ¬ ((255 : Int32) = 21) from by decide, show ¬ ((255 : Int32) = 54) from by decide, show ¬ ((255 : Int32) = 87) from by decide, show ¬ ((255 : Int32) = 89) from by decide, show ¬ ((255 : Int32) = 95) from by decide, show ¬ ((255 : Int32) = 96) from by decide, show ¬ ((255 : Int32) = 100) from by decide, show ¬ ((255 : Int32) = 126) from by decide, show ¬ ((255 : Int32) = 128) from by decide, show ¬ ((255 : Int32) = 132) from by decide, show ¬ ((255 : Int32) = 153) from by decide, show ¬ ((255 : Int32) = 155) from by decide, show ¬ ((255 : Int32) = 159) from by decide, show ¬ ((255 : Int32) = 167) from by decide, show ¬ ((255 : Int32) = 172) from by decide, show ¬ ((255 : Int32) = 182) from by decide, show ¬ ((255 : Int32) = 196) from by decide, ↓reduceIte]
        rfl
      have hx : zx_step u = zx_halt u := by
        have hB1 : ¬ zx_areBytes (zxg_pc u) 1 = 0 := fun q => (zaB1 _).mp q hB
        unfold zx_step
        rw [if_neg hB1, h255]
        simp only [show ¬ ((255 : Int32) = 0) from by decide, show ¬ ((255 : Int32) = 16) from by decide, show ¬ ((255 : Int32) = 19) from by decide, show ¬ ((255 : Int32) = 21) from by decide, show ¬ ((255 : Int32) = 54) from by decide, show ¬ ((255 : Int32) = 87) from by decide, show ¬ ((255 : Int32) = 89) from by decide, show ¬ ((255 : Int32) = 95) from by decide, show ¬ ((255 : Int32) = 96) from by decide, show ¬ ((255 : Int32) = 100) from by decide, show ¬ ((255 : Int32) = 126) from by decide, show ¬ ((255 : Int32) = 128) from by decide, show ¬ ((255 : Int32) = 132) from by decide, show ¬ ((255 : Int32) = 153) from by decide, show ¬ ((255 : Int32) = 155) from by decide, show ¬ ((255 : Int32) = 159) from by decide, show ¬ ((255 : Int32) = 167) from by decide, show ¬ ((255 : Int32) = 172) from by decide, show ¬ ((255 : Int32) = 182) from by decide, show ¬ ((255 : Int32) = 196) from by decide, ↓reduceIte]
      rw [hp, hx]
      dsimp only
      rw [if_pos (show ztg_amiss (zts_next (zts_next x (ztg_pc x + 1)) (ztg_pc x)) = 0 from Am), if_pos (show ztg_unknown (zts_next (zts_next x (ztg_pc x + 1)) (ztg_pc x)) = 0 from Nb), if_pos h255]
      obtain ⟨Rw, Rbb, Rp, Rs, Rl, Rc, Rt, Rst, Rcy, Rd⟩ := Rb
      refine ⟨⟨Rw, Rbb, Rp, Rs, Rl, Rc, Rt, rfl, ?_, ?_⟩, Y⟩
      · show ztg_cycles x + 2 = zxg_cycles u + 2
        rw [Rcy]
      · show ztg_done x + 1 = zxg_instructions u + 1
        rw [Rd]
    · have J := zperf Rb Y Am Nb hB h255
      have Gp := zt_G_perform (zx_unsignedByte u (zxg_pc u)) (by decide) Gb
      have Fp := zt_F_perform x (zx_unsignedByte u (zxg_pc u))
      generalize zt_perform x (zx_unsignedByte u (zxg_pc u)) = r at J Gp Fp ⊢
      obtain ⟨time, y⟩ := r
      dsimp only at J Gp Fp ⊢
      obtain ⟨Fth, Fb, Fpc, Fcp, Fst, Fcy, Fdn⟩ := Fp
      rcases J with ⟨j1, j2, j3, j4, j5, j6, j7, j8, j9, j10, j11, j12⟩ | ⟨j1, j2⟩ | ⟨j1, j2, j3⟩
      · dsimp only at j1 j2 j3 j5 j6 j7 j9 j11
        rw [if_pos j1, if_pos j2, if_neg h255]
        refine ⟨⟨j3.symm, ?_, j5.symm, j6.symm, j7.symm, ?_, j9.symm, ?_, ?_, ?_⟩, ?_⟩
        · show ztg_bytes y = _
          rw [Fb, Rb.2.1, j4]
        · show ztg_cpp y = _
          rw [Fcp, j8]; exact Rb.2.2.2.2.2.1
        · show (0 : Int32) = _
          rw [j10, S0]
        · show ztg_cycles y + time = _
          rw [Fcy, j11, Rb.2.2.2.2.2.2.2.2.1]
        · show ztg_done y + 1 = _
          rw [Fdn, j12, Rb.2.2.2.2.2.2.2.2.2]
        · unfold Zbyt; rw [j4]; exact Y
      · dsimp only at j1
        rw [if_neg j1, if_neg (show ¬ ztg_amiss (zts_top (zts_lv (zts_sp (zt_undone y) (ztg_sp x)) (ztg_lv x)) (ztg_top x)) = 0 from j1), j2]
        exact ⟨z_undo Rb (by decide) Gp ⟨Fb, Fpc, Fcp, Fcy, Fdn⟩ 3, Y⟩
      · dsimp only at j1 j2
        rw [if_pos j1, if_neg j2, if_pos (show ztg_amiss (zts_top (zts_lv (zts_sp (zt_undone y) (ztg_sp x)) (ztg_lv x)) (ztg_top x)) = 0 from j1), j3]
        exact ⟨z_undo Rb (by decide) Gp ⟨Fb, Fpc, Fcp, Fcy, Fdn⟩ 2, Y⟩
  · have Am : ¬ ztg_amiss (zt_byteAt w (zxg_pc u)).2 = 0 := fun q => hB (Ab.mp q).2
    have hx : zx_step u = zx_fault u := by
      unfold zx_step
      rw [if_pos ((zaB1 _).mpr hB)]
    have F : ztg_bytes (zt_byteAt w (zxg_pc u)).2 = ztg_bytes w ∧ ztg_pc (zt_byteAt w (zxg_pc u)).2 = ztg_pc w ∧ ztg_cpp (zt_byteAt w (zxg_pc u)).2 = ztg_cpp w ∧ ztg_cycles (zt_byteAt w (zxg_pc u)).2 = ztg_cycles w ∧ ztg_done (zt_byteAt w (zxg_pc u)).2 = ztg_done w := by simp only [zt_P_byteAt, and_self]
    generalize (zt_byteAt w (zxg_pc u)).2 = x at Am Gb F ⊢
    rw [if_neg Am, if_neg Am, if_neg (show ¬ ztg_amiss (zts_top (zts_lv (zts_sp (zt_undone x) (ztg_sp w)) (ztg_lv w)) (ztg_top w)) = 0 from Am), hx]
    exact ⟨z_undo (n := 0 + 0) R3 (by decide) Gb F 3, Y⟩

