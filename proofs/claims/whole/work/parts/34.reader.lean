theorem dX8_readSigned_84 : decode cX8_readSigned 84 = .ok (.istore 6, 2) := by decide +kernel
theorem dX8_readSigned_86 : decode cX8_readSigned 86 = .ok (.aload_n 0, 1) := by decide +kernel
theorem dX8_readSigned_87 : decode cX8_readSigned 87 = .ok (.iload 6, 2) := by decide +kernel
theorem dX8_readSigned_89 : decode cX8_readSigned 89 = .ok (.iload_n 1, 1) := by decide +kernel
theorem dX8_readSigned_90 : decode cX8_readSigned 90 = .ok (.iload_n 2, 1) := by decide +kernel
theorem dX8_readSigned_91 : decode cX8_readSigned 91 = .ok (.invokevirtual 135, 3) := by decide +kernel
theorem dX8_readSigned_94 : decode cX8_readSigned 94 = .ok (.iload 6, 2) := by decide +kernel
theorem dX8_readSigned_96 : decode cX8_readSigned 96 = .ok (.ireturn, 1) := by decide +kernel
theorem dX8_readSigned_82 : decode cX8_readSigned 82 = .ok (.iload 5, 2) := by decide +kernel
theorem dX8_readSigned_60 : decode cX8_readSigned 60 = .ok (.aload_n 0, 1) := by decide +kernel
theorem dX8_readSigned_61 : decode cX8_readSigned 61 = .ok (.iload_n 3, 1) := by decide +kernel
theorem dX8_readSigned_62 : decode cX8_readSigned 62 = .ok (.putfield 116, 3) := by decide +kernel
theorem dX8_readSigned_65 : decode cX8_readSigned 65 = .ok (.aload_n 0, 1) := by decide +kernel
theorem dX8_readSigned_66 : decode cX8_readSigned 66 = .ok (.invokevirtual 132, 3) := by decide +kernel
theorem dX8_readSigned_69 : decode cX8_readSigned 69 = .ok (.istore 5, 2) := by decide +kernel
theorem dX8_readSigned_71 : decode cX8_readSigned 71 = .ok (.iload 4, 2) := by decide +kernel
theorem dX8_readSigned_73 : decode cX8_readSigned 73 = .ok (.ifCond .eq 9, 3) := by decide +kernel
theorem dX8_readSigned_76 : decode cX8_readSigned 76 = .ok (.iload 5, 2) := by decide +kernel
theorem dX8_readSigned_78 : decode cX8_readSigned 78 = .ok (.ineg, 1) := by decide +kernel
theorem dX8_readSigned_79 : decode cX8_readSigned 79 = .ok (.goto 5, 3) := by decide +kernel
theorem dX8_readSigned_39 : decode cX8_readSigned 39 = .ok (.istore 4, 2) := by decide +kernel
theorem dX8_readSigned_41 : decode cX8_readSigned 41 = .ok (.iload 4, 2) := by decide +kernel
theorem dX8_readSigned_43 : decode cX8_readSigned 43 = .ok (.ifCond .eq 17, 3) := by decide +kernel
theorem dX8_readSigned_46 : decode cX8_readSigned 46 = .ok (.aload_n 0, 1) := by decide +kernel
theorem dX8_readSigned_47 : decode cX8_readSigned 47 = .ok (.dup, 1) := by decide +kernel
theorem dX8_readSigned_48 : decode cX8_readSigned 48 = .ok (.getfield 38, 3) := by decide +kernel
theorem dX8_readSigned_51 : decode cX8_readSigned 51 = .ok (.iconst 1, 1) := by decide +kernel
theorem dX8_readSigned_52 : decode cX8_readSigned 52 = .ok (.iadd, 1) := by decide +kernel
theorem dX8_readSigned_53 : decode cX8_readSigned 53 = .ok (.putfield 38, 3) := by decide +kernel
theorem dX8_readSigned_56 : decode cX8_readSigned 56 = .ok (.aload_n 0, 1) := by decide +kernel
theorem dX8_readSigned_57 : decode cX8_readSigned 57 = .ok (.invokevirtual 47, 3) := by decide +kernel
theorem dX8_readSigned_38 : decode cX8_readSigned 38 = .ok (.iconst 0, 1) := by decide +kernel
theorem dX8_readSigned_0 : decode cX8_readSigned 0 = .ok (.aload_n 0, 1) := by decide +kernel
theorem dX8_readSigned_1 : decode cX8_readSigned 1 = .ok (.invokevirtual 47, 3) := by decide +kernel
theorem dX8_readSigned_4 : decode cX8_readSigned 4 = .ok (.aload_n 0, 1) := by decide +kernel
theorem dX8_readSigned_5 : decode cX8_readSigned 5 = .ok (.getfield 38, 3) := by decide +kernel
theorem dX8_readSigned_8 : decode cX8_readSigned 8 = .ok (.istore_n 3, 1) := by decide +kernel
theorem dX8_readSigned_9 : decode cX8_readSigned 9 = .ok (.aload_n 0, 1) := by decide +kernel
theorem dX8_readSigned_10 : decode cX8_readSigned 10 = .ok (.getfield 38, 3) := by decide +kernel
theorem dX8_readSigned_13 : decode cX8_readSigned 13 = .ok (.aload_n 0, 1) := by decide +kernel
theorem dX8_readSigned_14 : decode cX8_readSigned 14 = .ok (.getfield 35, 3) := by decide +kernel
theorem dX8_readSigned_17 : decode cX8_readSigned 17 = .ok (.if_icmp .ge 21, 3) := by decide +kernel
theorem dX8_readSigned_20 : decode cX8_readSigned 20 = .ok (.aload_n 0, 1) := by decide +kernel
theorem dX8_readSigned_21 : decode cX8_readSigned 21 = .ok (.getfield 22, 3) := by decide +kernel
theorem dX8_readSigned_24 : decode cX8_readSigned 24 = .ok (.aload_n 0, 1) := by decide +kernel
theorem dX8_readSigned_25 : decode cX8_readSigned 25 = .ok (.getfield 38, 3) := by decide +kernel
theorem dX8_readSigned_28 : decode cX8_readSigned 28 = .ok (.iaload, 1) := by decide +kernel
theorem dX8_readSigned_29 : decode cX8_readSigned 29 = .ok (.bipush 45, 2) := by decide +kernel
theorem dX8_readSigned_31 : decode cX8_readSigned 31 = .ok (.if_icmp .ne 7, 3) := by decide +kernel
theorem dX8_readSigned_34 : decode cX8_readSigned 34 = .ok (.iconst 1, 1) := by decide +kernel
theorem dX8_readSigned_35 : decode cX8_readSigned 35 = .ok (.goto 4, 3) := by decide +kernel
/-! a number with a sign -/
def uSm (T : Nat → Int32) (n : Nat) (U : zU) : Bool := decide (skp T n U.1 < n ∧ T (skp T n U.1) = 45)
def uSp (T : Nat → Int32) (n : Nat) (U : zU) : Nat := if uSm T n U then skp T n (skp T n U.1 + 1) else skp T n U.1
def uSs (T : Nat → Int32) (n : Nat) (U : zU) : zU := (uSp T n U, U.2.1, U.2.2.1, nI (skp T n U.1))
def uSv (T : Nat → Int32) (n : Nat) (U : zU) : Int32 := if uSm T n U then -(dgv T (uSp T n U) (dgc T n (uSp T n U))) else dgv T (uSp T n U) (dgc T n (uSp T n U))
def uSg (T : Nat → Int32) (n : Nat) (U : zU) (lo up : Int32) : zU := uNe (uDg T n (uSs T n U)) (uSv T n U) lo up
theorem rpR_sk {T : Nat → Int32} {n : Nat} {U : zU} {h : zH} {r : Nat} (hU : rpR T n U h r) : cg_X8_skipBlanks (r, n, U.1) h = zsI h r 6 (nI (skp T n U.1)) ∧ rpR T n (skp T n U.1, U.2) (zsI h r 6 (nI (skp T n U.1))) r ∧ sm r 1 h (zsI h r 6 (nI (skp T n U.1))) := by
  have hT : h.1 (r + 8) = T := hU.2.2.2.2.2
  refine ⟨?_, rpR_6 (skp_le T hU.2.1.2).2 hU⟩
  show zsI h r 6 (nI (skp (h.1 (r + 8)) n U.1)) = _
  rw [hT]
theorem rpR_dv {T : Nat → Int32} {n : Nat} {U : zU} {h : zH} {r : Nat} (hU : rpR T n U h r) : cf_X8_readDigits (r, n, U.1) h = dgv T U.1 (dgc T n U.1) := by
  show dgv (h.1 (r + 8)) _ (dgc (h.1 (r + 8)) n _) = _
  rw [hU.2.2.2.2.2]
def ca_X8_readSigned : ((Nat → Int32) × Nat × zU × Nat × Int32 × Int32) → List zV := fun (T, n, U, r, lo, up) => [vR 17 0 r, vI lo, vI up]
def cp_X8_readSigned : ((Nat → Int32) × Nat × zU × Nat × Int32 × Int32) → zH → Prop := fun (T, n, U, r, lo, up) h => rpR T n U h r
def cq_X8_readSigned : ((Nat → Int32) × Nat × zU × Nat × Int32 × Int32) → zH → Option zV → zH → Prop := fun (T, n, U, r, lo, up) h o h' => o = some (vI (uSv T n U)) ∧ sm r 1 h h' ∧ rpR T n (uSg T n U lo up) h' r
theorem rc_X8_readSigned : ∀ x : ((Nat → Int32) × Nat × zU × Nat × Int32 × Int32), ∃ (j a : Nat) (As : List zV), ca_X8_readSigned x = vR (10 + 7) j a :: As := by
  rintro ⟨T, n, U, r, lo, up⟩
  exact ⟨_, _, _, rfl⟩
set_option maxHeartbeats 4000000 in
set_option maxRecDepth 100000 in
theorem m_X8_readSigned : zM yX8_readSigned cX8_readSigned 7 (some .int) ({ frames := 2, cells := 0, slots := 0, locals := 45 } : Room) ((ca_X8_readSigned, cp_X8_readSigned, cq_X8_readSigned) : zC ((Nat → Int32) × Nat × zU × Nat × Int32 × Int32)) := by
  refine zM_of (by decide) ?_
  rintro X Y ⟨T, n, U, r, lo, up⟩ h hU O E hR
  have B_84 := zr_istore (X := X) (Y := Y) (u := 0) (v := 0) O dX8_readSigned_84 (zr_aload_n O dX8_readSigned_86 rfl (zr_iload O dX8_readSigned_87 (zr_iload_n O dX8_readSigned_89 rfl (zr_iload_n O dX8_readSigned_90 rfl (zr_cVv (zr_cV (ci := 7) (n := 3) O m_X8_needNumber (bn_X8_needNumber _ ⟨rfl, rfl⟩) vw_X8_needNumber tw_620 rc_X8_needNumber (zrm hR rfl rfl) dX8_readSigned_91 (zr_iload O dX8_readSigned_94 (zr_ireturn O E (Nat.le_refl _) (Nat.le_refl _) dX8_readSigned_96))))))))
  have B_82 := zr_iload (X := X) (Y := Y) (u := 0) (v := 0) O dX8_readSigned_82 (B_84)
  have B_60 := zr_aload_n (X := X) (Y := Y) (u := 0) (v := 0) O dX8_readSigned_60 rfl (zr_iload_n O dX8_readSigned_61 rfl (zr_pI (ci := 7) (j := 7) O zc_7 (by decide) rfl rfl rfl tw_204 dX8_readSigned_62 (zr_aload_n O dX8_readSigned_65 rfl (zr_cH (zr_cV (ci := 7) (n := 0) O m_X8_readDigits (bn_X8_readDigits _ ⟨rfl, rfl⟩) vw_X8_readDigits tw_615 rc_X8_readDigits (zrm hR rfl rfl) dX8_readSigned_66 (zr_istore O dX8_readSigned_69 (zr_iload O dX8_readSigned_71 (zr_ifeq (tgt := 82) O dX8_readSigned_73 rfl B_82 (zr_iload O dX8_readSigned_76 (zr_ineg O dX8_readSigned_78 (zr_goto (tgt := 84) O dX8_readSigned_79 rfl B_84)))))))))))
  have B_39 := zr_istore (X := X) (Y := Y) (u := 0) (v := 0) O dX8_readSigned_39 (zr_iload O dX8_readSigned_41 (zr_ifeq (tgt := 60) O dX8_readSigned_43 rfl B_60 (zr_aload_n O dX8_readSigned_46 rfl (zr_dup O dX8_readSigned_47 (zr_gI (ci := 7) (j := 6) O zc_7 (by decide) rfl tw_203 dX8_readSigned_48 (zr_iconst (x := 1) O dX8_readSigned_51 rfl (zr_iadd O dX8_readSigned_52 (zr_pI (ci := 7) (j := 6) O zc_7 (by decide) rfl rfl rfl tw_203 dX8_readSigned_53 (zr_aload_n O dX8_readSigned_56 rfl (zr_cVv (zr_cV (ci := 7) (n := 0) O m_X8_skipBlanks (bn_X8_skipBlanks _ ⟨rfl, rfl⟩) vw_X8_skipBlanks tw_542 rc_X8_skipBlanks (zrm hR rfl rfl) dX8_readSigned_57 (B_60))))))))))))
  have B_38 := zr_iconst (X := X) (Y := Y) (u := 0) (v := 0) (x := 0) O dX8_readSigned_38 rfl (B_39)
  have B_0 := zr_aload_n (X := X) (Y := Y) (u := 0) (v := 0) O dX8_readSigned_0 rfl (zr_cVv (zr_cV (ci := 7) (n := 0) O m_X8_skipBlanks (bn_X8_skipBlanks _ ⟨rfl, rfl⟩) vw_X8_skipBlanks tw_542 rc_X8_skipBlanks (zrm hR rfl rfl) dX8_readSigned_1 (zr_aload_n O dX8_readSigned_4 rfl (zr_gI (ci := 7) (j := 6) O zc_7 (by decide) rfl tw_203 dX8_readSigned_5 (zr_istore_n O dX8_readSigned_8 rfl (zr_aload_n O dX8_readSigned_9 rfl (zr_gI (ci := 7) (j := 6) O zc_7 (by decide) rfl tw_203 dX8_readSigned_10 (zr_aload_n O dX8_readSigned_13 rfl (zr_gI (ci := 7) (j := 5) O zc_7 (by decide) rfl tw_202 dX8_readSigned_14 (zr_icge (tgt := 38) O dX8_readSigned_17 rfl B_38 (zr_aload_n O dX8_readSigned_20 rfl (zr_gS (ci := 7) (j := 3) (off := 8) (t := 1) (n := 400) O zc_7 (by decide) rfl tw_199 dX8_readSigned_21 (zr_aload_n O dX8_readSigned_24 rfl (zr_gI (ci := 7) (j := 6) O zc_7 (by decide) rfl tw_203 dX8_readSigned_25 (zr_iald O dX8_readSigned_28 (zr_bipush (x := (45)) O dX8_readSigned_29 (by decide) (zr_icne (tgt := 38) O dX8_readSigned_31 rfl B_38 (zr_iconst (x := 1) O dX8_readSigned_34 rfl (zr_goto (tgt := 39) O dX8_readSigned_35 rfl B_39)))))))))))))))))))
  refine ⟨rfl, Nat.le_of_ble_eq_true rfl, _, B_0, ?_⟩
  have hU : rpR T n U h r := hU
  have h4 := hU.1.2
  obtain ⟨e1, s1, z1⟩ := rpR_sk hU
  have hle := (skp_le T hU.2.1.2).2
  have e6 : (zsI h r 6 (nI (skp T n U.1))).1 r 6 = nI (skp T n U.1) := s1.2.1.1
  have e5 : (zsI h r 6 (nI (skp T n U.1))).1 r 5 = nI n := s1.1.1
  have e8 : (zsI h r 6 (nI (skp T n U.1))).1 (r + 8) = T := s1.2.2.2.2.2
  refine ⟨(r, n, U.1), rfl, ⟨hU.1, hU.2.1⟩, ?_⟩
  rw [e1]
  refine ⟨fun cq => ⟨fun _ => ?_, fun z => absurd rfl z⟩, fun cq => ⟨skp T n U.1, e6, ?_, fun dq => ⟨fun _ => ?_, fun z => absurd rfl z⟩, fun dq => ⟨fun z => absurd z (by decide), fun _ => ?_⟩⟩⟩
  · rw [e5, e6] at cq
    have hge := (nI_leI (by omega) (by omega)).mp cq
    have hm : uSm T n U = false := decide_eq_false (fun z => by omega)
    have hp : uSp T n U = skp T n U.1 := by rw [uSp, hm]; rfl
    have hv : uSv T n U = dgv T (uSp T n U) (dgc T n (uSp T n U)) := by rw [uSv, hm]; rfl
    have s2 := rpR_7 (nI (skp T n U.1)) s1
    have s2 : rpR T n (uSs T n U) (zsI (zsI h r 6 (nI (skp T n U.1))) r 7 (nI (skp T n U.1))) r ∧ sm r 1 (zsI h r 6 (nI (skp T n U.1))) (zsI (zsI h r 6 (nI (skp T n U.1))) r 7 (nI (skp T n U.1))) := by rw [uSs, hp]; exact s2
    have s3 := rpR_dg s2.1
    have s4 := rpR_ne (uSv T n U) lo up s3.1
    have eV := rpR_dv s2.1
    have eV : cf_X8_readDigits (r, n, (uSs T n U).1) (zsI (zsI h r 6 (nI (skp T n U.1))) r 7 (nI (skp T n U.1))) = uSv T n U := by rw [eV, hv]; rfl
    refine ⟨(r, n, (uSs T n U).1), rfl, ⟨?_, ?_⟩, fun _ => ⟨(r, uSv T n U, lo, up), ?_, trivial, ?_, ?_, ?_⟩, fun z => absurd rfl z⟩
    · rw [e6]; exact s2.1.1
    · rw [e6]; exact s2.1.2.1
    · rw [e6, eV]; rfl
    · rw [e6, eV]
    · rw [e6]; exact sm_tr z1 (sm_tr s2.2 (sm_tr s3.2 s4.2))
    · rw [e6]; exact s4.1
  · rw [e5, e6] at cq
    have : ¬ n ≤ skp T n U.1 := fun z => cq ((nI_leI (by omega) (by omega)).mpr z)
    omega
  · rw [e8] at dq
    have hm : uSm T n U = false := decide_eq_false (fun z => dq z.2)
    have hp : uSp T n U = skp T n U.1 := by rw [uSp, hm]; rfl
    have hv : uSv T n U = dgv T (uSp T n U) (dgc T n (uSp T n U)) := by rw [uSv, hm]; rfl
    have s2 := rpR_7 (nI (skp T n U.1)) s1
    have s2 : rpR T n (uSs T n U) (zsI (zsI h r 6 (nI (skp T n U.1))) r 7 (nI (skp T n U.1))) r ∧ sm r 1 (zsI h r 6 (nI (skp T n U.1))) (zsI (zsI h r 6 (nI (skp T n U.1))) r 7 (nI (skp T n U.1))) := by rw [uSs, hp]; exact s2
    have s3 := rpR_dg s2.1
    have s4 := rpR_ne (uSv T n U) lo up s3.1
    have eV := rpR_dv s2.1
    have eV : cf_X8_readDigits (r, n, (uSs T n U).1) (zsI (zsI h r 6 (nI (skp T n U.1))) r 7 (nI (skp T n U.1))) = uSv T n U := by rw [eV, hv]; rfl
    refine ⟨(r, n, (uSs T n U).1), rfl, ⟨?_, ?_⟩, fun _ => ⟨(r, uSv T n U, lo, up), ?_, trivial, ?_, ?_, ?_⟩, fun z => absurd rfl z⟩
    · rw [e6]; exact s2.1.1
    · rw [e6]; exact s2.1.2.1
    · rw [e6, eV]; rfl
    · rw [e6, eV]
    · rw [e6]; exact sm_tr z1 (sm_tr s2.2 (sm_tr s3.2 s4.2))
    · rw [e6]; exact s4.1
  · rw [e5, e6] at cq
    have hlt : ¬ n ≤ skp T n U.1 := fun z => cq ((nI_leI (by omega) (by omega)).mpr z)
    rw [e8] at dq
    have hm : uSm T n U = true := decide_eq_true ⟨by omega, dq⟩
    have hp : uSp T n U = skp T n (skp T n U.1 + 1) := by rw [uSp, hm]; rfl
    have hv : uSv T n U = -(dgv T (uSp T n U) (dgc T n (uSp T n U))) := by rw [uSv, hm]; rfl
    have s5 := rpR_6 (p := skp T n U.1 + 1) (by omega) s1
    have e7 : zsI (zsI h r 6 (nI (skp T n U.1))) r 6 ((zsI h r 6 (nI (skp T n U.1))).1 r 6 + 1) = zsI (zsI h r 6 (nI (skp T n U.1))) r 6 (nI (skp T n U.1 + 1)) := by rw [e6, nI_1]
    obtain ⟨f1, s6, z6⟩ := rpR_sk s5.1
    have s2 := rpR_7 (nI (skp T n U.1)) s6
    have s2 : rpR T n (uSs T n U) (zsI (zsI (zsI (zsI h r 6 (nI (skp T n U.1))) r 6 (nI (skp T n U.1 + 1))) r 6 (nI (skp T n (skp T n U.1 + 1)))) r 7 (nI (skp T n U.1))) r ∧ sm r 1 (zsI (zsI (zsI h r 6 (nI (skp T n U.1))) r 6 (nI (skp T n U.1 + 1))) r 6 (nI (skp T n (skp T n U.1 + 1)))) (zsI (zsI (zsI (zsI h r 6 (nI (skp T n U.1))) r 6 (nI (skp T n U.1 + 1))) r 6 (nI (skp T n (skp T n U.1 + 1)))) r 7 (nI (skp T n U.1))) := by rw [uSs, hp]; exact s2
    have s3 := rpR_dg s2.1
    have s4 := rpR_ne (uSv T n U) lo up s3.1
    have eV := rpR_dv s2.1
    have eV : -(cf_X8_readDigits (r, n, (uSs T n U).1) (zsI (zsI (zsI (zsI h r 6 (nI (skp T n U.1))) r 6 (nI (skp T n U.1 + 1))) r 6 (nI (skp T n (skp T n U.1 + 1)))) r 7 (nI (skp T n U.1)))) = uSv T n U := by rw [eV, hv]; rfl
    refine ⟨(r, n, skp T n U.1 + 1), rfl, ⟨?_, ?_⟩, ?_⟩
    · rw [e7]; exact s5.1.1
    · rw [e7]; exact s5.1.2.1
    rw [e7, f1]
    refine ⟨(r, n, (uSs T n U).1), rfl, ⟨?_, ?_⟩, fun z => absurd z (by decide), fun _ => ⟨(r, uSv T n U, lo, up), ?_, trivial, ?_, ?_, ?_⟩⟩
    · rw [e6]; exact s2.1.1
    · rw [e6]; exact s2.1.2.1
    · rw [e6, eV]; rfl
    · rw [e6, eV]
    · rw [e6]; exact sm_tr z1 (sm_tr s5.2 (sm_tr z6 (sm_tr s2.2 (sm_tr s3.2 s4.2))))
    · rw [e6]; exact s4.1

