theorem dX11_thrown_0 : decode cX11_thrown 0 = .ok (.aload_n 0, 1) := by decide +kernel
theorem dX11_thrown_1 : decode cX11_thrown 1 = .ok (.getfield 1, 3) := by decide +kernel
theorem dX11_thrown_4 : decode cX11_thrown 4 = .ok (.ireturn, 1) := by decide +kernel
theorem dX11_fault_0 : decode cX11_fault 0 = .ok (.aload_n 0, 1) := by decide +kernel
theorem dX11_fault_1 : decode cX11_fault 1 = .ok (.iconst 0, 1) := by decide +kernel
theorem dX11_fault_2 : decode cX11_fault 2 = .ok (.putfield 1, 3) := by decide +kernel
theorem dX11_fault_5 : decode cX11_fault 5 = .ok (.aload_n 0, 1) := by decide +kernel
theorem dX11_fault_6 : decode cX11_fault 6 = .ok (.getfield 54, 3) := by decide +kernel
theorem dX11_fault_9 : decode cX11_fault 9 = .ok (.ireturn, 1) := by decide +kernel
theorem dX11_status_24 : decode cX11_status 24 = .ok (.ireturn, 1) := by decide +kernel
theorem dX11_status_23 : decode cX11_status 23 = .ok (.iconst (-1), 1) := by decide +kernel
theorem dX11_status_0 : decode cX11_status 0 = .ok (.aload_n 0, 1) := by decide +kernel
theorem dX11_status_1 : decode cX11_status 1 = .ok (.iconst 0, 1) := by decide +kernel
theorem dX11_status_2 : decode cX11_status 2 = .ok (.putfield 1, 3) := by decide +kernel
theorem dX11_status_5 : decode cX11_status 5 = .ok (.iload_n 1, 1) := by decide +kernel
theorem dX11_status_6 : decode cX11_status 6 = .ok (.iconst 0, 1) := by decide +kernel
theorem dX11_status_7 : decode cX11_status 7 = .ok (.iconst 2, 1) := by decide +kernel
theorem dX11_status_8 : decode cX11_status 8 = .ok (.invokestatic 173, 3) := by decide +kernel
theorem dX11_status_11 : decode cX11_status 11 = .ok (.ifCond .eq 12, 3) := by decide +kernel
theorem dX11_status_14 : decode cX11_status 14 = .ok (.aload_n 0, 1) := by decide +kernel
theorem dX11_status_15 : decode cX11_status 15 = .ok (.getfield 7, 3) := by decide +kernel
theorem dX11_status_18 : decode cX11_status 18 = .ok (.iload_n 1, 1) := by decide +kernel
theorem dX11_status_19 : decode cX11_status 19 = .ok (.iaload, 1) := by decide +kernel
theorem dX11_status_20 : decode cX11_status 20 = .ok (.goto 4, 3) := by decide +kernel
theorem dX11_speed_31 : decode cX11_speed 31 = .ok (.ireturn, 1) := by decide +kernel
theorem dX11_speed_30 : decode cX11_speed 30 = .ok (.iconst 0, 1) := by decide +kernel
theorem dX11_speed_0 : decode cX11_speed 0 = .ok (.aload_n 0, 1) := by decide +kernel
theorem dX11_speed_1 : decode cX11_speed 1 = .ok (.iconst 0, 1) := by decide +kernel
theorem dX11_speed_2 : decode cX11_speed 2 = .ok (.putfield 1, 3) := by decide +kernel
theorem dX11_speed_5 : decode cX11_speed 5 = .ok (.aload_n 0, 1) := by decide +kernel
theorem dX11_speed_6 : decode cX11_speed 6 = .ok (.iload_n 1, 1) := by decide +kernel
theorem dX11_speed_7 : decode cX11_speed 7 = .ok (.invokevirtual 236, 3) := by decide +kernel
theorem dX11_speed_10 : decode cX11_speed 10 = .ok (.ifCond .eq 20, 3) := by decide +kernel
theorem dX11_speed_13 : decode cX11_speed 13 = .ok (.aload_n 0, 1) := by decide +kernel
theorem dX11_speed_14 : decode cX11_speed 14 = .ok (.iload_n 2, 1) := by decide +kernel
theorem dX11_speed_15 : decode cX11_speed 15 = .ok (.invokevirtual 276, 3) := by decide +kernel
theorem dX11_speed_18 : decode cX11_speed 18 = .ok (.ifCond .eq 12, 3) := by decide +kernel
theorem dX11_speed_21 : decode cX11_speed 21 = .ok (.aload_n 0, 1) := by decide +kernel
theorem dX11_speed_22 : decode cX11_speed 22 = .ok (.iload_n 1, 1) := by decide +kernel
theorem dX11_speed_23 : decode cX11_speed 23 = .ok (.iload_n 2, 1) := by decide +kernel
theorem dX11_speed_24 : decode cX11_speed 24 = .ok (.invokevirtual 74, 3) := by decide +kernel
theorem dX11_speed_27 : decode cX11_speed 27 = .ok (.goto 4, 3) := by decide +kernel
theorem dX11_bit_31 : decode cX11_bit 31 = .ok (.ireturn, 1) := by decide +kernel
theorem dX11_bit_30 : decode cX11_bit 30 = .ok (.iconst 0, 1) := by decide +kernel
theorem dX11_bit_0 : decode cX11_bit 0 = .ok (.aload_n 0, 1) := by decide +kernel
theorem dX11_bit_1 : decode cX11_bit 1 = .ok (.iconst 0, 1) := by decide +kernel
theorem dX11_bit_2 : decode cX11_bit 2 = .ok (.putfield 1, 3) := by decide +kernel
theorem dX11_bit_5 : decode cX11_bit 5 = .ok (.aload_n 0, 1) := by decide +kernel
theorem dX11_bit_6 : decode cX11_bit 6 = .ok (.iload_n 1, 1) := by decide +kernel
theorem dX11_bit_7 : decode cX11_bit 7 = .ok (.invokevirtual 251, 3) := by decide +kernel
theorem dX11_bit_10 : decode cX11_bit 10 = .ok (.ifCond .eq 20, 3) := by decide +kernel
theorem dX11_bit_13 : decode cX11_bit 13 = .ok (.aload_n 0, 1) := by decide +kernel
theorem dX11_bit_14 : decode cX11_bit 14 = .ok (.iload_n 2, 1) := by decide +kernel
theorem dX11_bit_15 : decode cX11_bit 15 = .ok (.invokevirtual 276, 3) := by decide +kernel
theorem dX11_bit_18 : decode cX11_bit 18 = .ok (.ifCond .eq 12, 3) := by decide +kernel
theorem dX11_bit_21 : decode cX11_bit 21 = .ok (.aload_n 0, 1) := by decide +kernel
theorem dX11_bit_22 : decode cX11_bit 22 = .ok (.iload_n 1, 1) := by decide +kernel
theorem dX11_bit_23 : decode cX11_bit 23 = .ok (.iload_n 2, 1) := by decide +kernel
theorem dX11_bit_24 : decode cX11_bit 24 = .ok (.invokevirtual 82, 3) := by decide +kernel
theorem dX11_bit_27 : decode cX11_bit 27 = .ok (.goto 4, 3) := by decide +kernel
theorem dX11_ring_72 : decode cX11_ring 72 = .ok (.ireturn, 1) := by decide +kernel
theorem dX11_ring_67 : decode cX11_ring 67 = .ok (.aload_n 0, 1) := by decide +kernel
theorem dX11_ring_68 : decode cX11_ring 68 = .ok (.iload_n 1, 1) := by decide +kernel
theorem dX11_ring_69 : decode cX11_ring 69 = .ok (.invokevirtual 273, 3) := by decide +kernel
theorem dX11_ring_50 : decode cX11_ring 50 = .ok (.iload_n 2, 1) := by decide +kernel
theorem dX11_ring_51 : decode cX11_ring 51 = .ok (.iconst 3, 1) := by decide +kernel
theorem dX11_ring_52 : decode cX11_ring 52 = .ok (.if_icmp .ne 15, 3) := by decide +kernel
theorem dX11_ring_55 : decode cX11_ring 55 = .ok (.aload_n 0, 1) := by decide +kernel
theorem dX11_ring_56 : decode cX11_ring 56 = .ok (.getfield 17, 3) := by decide +kernel
theorem dX11_ring_59 : decode cX11_ring 59 = .ok (.bipush 35, 2) := by decide +kernel
theorem dX11_ring_61 : decode cX11_ring 61 = .ok (.iload_n 1, 1) := by decide +kernel
theorem dX11_ring_62 : decode cX11_ring 62 = .ok (.iadd, 1) := by decide +kernel
theorem dX11_ring_63 : decode cX11_ring 63 = .ok (.iaload, 1) := by decide +kernel
theorem dX11_ring_64 : decode cX11_ring 64 = .ok (.goto 8, 3) := by decide +kernel
theorem dX11_ring_30 : decode cX11_ring 30 = .ok (.iload_n 2, 1) := by decide +kernel
theorem dX11_ring_31 : decode cX11_ring 31 = .ok (.iconst 3, 1) := by decide +kernel
theorem dX11_ring_32 : decode cX11_ring 32 = .ok (.if_icmp .ge 18, 3) := by decide +kernel
theorem dX11_ring_35 : decode cX11_ring 35 = .ok (.aload_n 0, 1) := by decide +kernel
theorem dX11_ring_36 : decode cX11_ring 36 = .ok (.getfield 17, 3) := by decide +kernel
theorem dX11_ring_39 : decode cX11_ring 39 = .ok (.iconst 5, 1) := by decide +kernel
theorem dX11_ring_40 : decode cX11_ring 40 = .ok (.iconst 3, 1) := by decide +kernel
theorem dX11_ring_41 : decode cX11_ring 41 = .ok (.iload_n 1, 1) := by decide +kernel
theorem dX11_ring_42 : decode cX11_ring 42 = .ok (.imul, 1) := by decide +kernel
theorem dX11_ring_43 : decode cX11_ring 43 = .ok (.iadd, 1) := by decide +kernel
theorem dX11_ring_44 : decode cX11_ring 44 = .ok (.iload_n 2, 1) := by decide +kernel
theorem dX11_ring_45 : decode cX11_ring 45 = .ok (.iadd, 1) := by decide +kernel
theorem dX11_ring_46 : decode cX11_ring 46 = .ok (.iaload, 1) := by decide +kernel
theorem dX11_ring_47 : decode cX11_ring 47 = .ok (.goto 25, 3) := by decide +kernel
theorem dX11_ring_28 : decode cX11_ring 28 = .ok (.iconst 0, 1) := by decide +kernel
theorem dX11_ring_29 : decode cX11_ring 29 = .ok (.ireturn, 1) := by decide +kernel
theorem dX11_ring_0 : decode cX11_ring 0 = .ok (.aload_n 0, 1) := by decide +kernel
theorem dX11_ring_1 : decode cX11_ring 1 = .ok (.iconst 0, 1) := by decide +kernel
theorem dX11_ring_2 : decode cX11_ring 2 = .ok (.putfield 1, 3) := by decide +kernel
theorem dX11_ring_5 : decode cX11_ring 5 = .ok (.aload_n 0, 1) := by decide +kernel
theorem dX11_ring_6 : decode cX11_ring 6 = .ok (.iload_n 1, 1) := by decide +kernel
theorem dX11_ring_7 : decode cX11_ring 7 = .ok (.invokevirtual 236, 3) := by decide +kernel
theorem dX11_ring_10 : decode cX11_ring 10 = .ok (.ifCond .eq 18, 3) := by decide +kernel
theorem dX11_ring_13 : decode cX11_ring 13 = .ok (.aload_n 0, 1) := by decide +kernel
theorem dX11_ring_14 : decode cX11_ring 14 = .ok (.iload_n 2, 1) := by decide +kernel
theorem dX11_ring_15 : decode cX11_ring 15 = .ok (.iconst 0, 1) := by decide +kernel
theorem dX11_ring_16 : decode cX11_ring 16 = .ok (.iconst 4, 1) := by decide +kernel
theorem dX11_ring_17 : decode cX11_ring 17 = .ok (.invokestatic 173, 3) := by decide +kernel
theorem dX11_ring_20 : decode cX11_ring 20 = .ok (.iconst 2, 1) := by decide +kernel
theorem dX11_ring_21 : decode cX11_ring 21 = .ok (.iconst 1, 1) := by decide +kernel
theorem dX11_ring_22 : decode cX11_ring 22 = .ok (.invokevirtual 217, 3) := by decide +kernel
theorem dX11_ring_25 : decode cX11_ring 25 = .ok (.ifCond .ne 5, 3) := by decide +kernel
theorem dX11_rank_116 : decode cX11_rank 116 = .ok (.iconst 0, 1) := by decide +kernel
theorem dX11_rank_117 : decode cX11_rank 117 = .ok (.ireturn, 1) := by decide +kernel
theorem dX11_rank_110 : decode cX11_rank 110 = .ok (.iinc 3 1, 3) := by decide +kernel
theorem dX11_rank_113 : decode cX11_rank 113 = .ok (.goto (-88), 3) := by decide +kernel
theorem dX11_rank_102 : decode cX11_rank 102 = .ok (.iload 4, 2) := by decide +kernel
theorem dX11_rank_104 : decode cX11_rank 104 = .ok (.iload_n 1, 1) := by decide +kernel
theorem dX11_rank_105 : decode cX11_rank 105 = .ok (.if_icmp .ne 5, 3) := by decide +kernel
theorem dX11_rank_108 : decode cX11_rank 108 = .ok (.iload_n 3, 1) := by decide +kernel
theorem dX11_rank_109 : decode cX11_rank 109 = .ok (.ireturn, 1) := by decide +kernel
theorem dX11_rank_93 : decode cX11_rank 93 = .ok (.iadd, 1) := by decide +kernel
theorem dX11_rank_94 : decode cX11_rank 94 = .ok (.istore 4, 2) := by decide +kernel
theorem dX11_rank_96 : decode cX11_rank 96 = .ok (.iinc 5 1, 3) := by decide +kernel
theorem dX11_rank_99 : decode cX11_rank 99 = .ok (.goto (-60), 3) := by decide +kernel
theorem dX11_rank_92 : decode cX11_rank 92 = .ok (.iconst 0, 1) := by decide +kernel
theorem dX11_rank_88 : decode cX11_rank 88 = .ok (.iconst 1, 1) := by decide +kernel
theorem dX11_rank_89 : decode cX11_rank 89 = .ok (.goto 4, 3) := by decide +kernel
theorem dX11_rank_39 : decode cX11_rank 39 = .ok (.iload 5, 2) := by decide +kernel
theorem dX11_rank_41 : decode cX11_rank 41 = .ok (.aload_n 0, 1) := by decide +kernel
theorem dX11_rank_42 : decode cX11_rank 42 = .ok (.getfield 224, 3) := by decide +kernel
theorem dX11_rank_45 : decode cX11_rank 45 = .ok (.if_icmp .ge 57, 3) := by decide +kernel
theorem dX11_rank_48 : decode cX11_rank 48 = .ok (.iload 4, 2) := by decide +kernel
theorem dX11_rank_50 : decode cX11_rank 50 = .ok (.aload_n 0, 1) := by decide +kernel
theorem dX11_rank_51 : decode cX11_rank 51 = .ok (.iload 5, 2) := by decide +kernel
theorem dX11_rank_53 : decode cX11_rank 53 = .ok (.iload_n 2, 1) := by decide +kernel
theorem dX11_rank_54 : decode cX11_rank 54 = .ok (.invokevirtual 74, 3) := by decide +kernel
theorem dX11_rank_57 : decode cX11_rank 57 = .ok (.aload_n 0, 1) := by decide +kernel
theorem dX11_rank_58 : decode cX11_rank 58 = .ok (.iload_n 3, 1) := by decide +kernel
theorem dX11_rank_59 : decode cX11_rank 59 = .ok (.iload_n 2, 1) := by decide +kernel
theorem dX11_rank_60 : decode cX11_rank 60 = .ok (.invokevirtual 74, 3) := by decide +kernel
theorem dX11_rank_63 : decode cX11_rank 63 = .ok (.if_icmp .gt 25, 3) := by decide +kernel
theorem dX11_rank_66 : decode cX11_rank 66 = .ok (.aload_n 0, 1) := by decide +kernel
theorem dX11_rank_67 : decode cX11_rank 67 = .ok (.iload 5, 2) := by decide +kernel
theorem dX11_rank_69 : decode cX11_rank 69 = .ok (.iload_n 2, 1) := by decide +kernel
theorem dX11_rank_70 : decode cX11_rank 70 = .ok (.invokevirtual 74, 3) := by decide +kernel
theorem dX11_rank_73 : decode cX11_rank 73 = .ok (.aload_n 0, 1) := by decide +kernel
theorem dX11_rank_74 : decode cX11_rank 74 = .ok (.iload_n 3, 1) := by decide +kernel
theorem dX11_rank_75 : decode cX11_rank 75 = .ok (.iload_n 2, 1) := by decide +kernel
theorem dX11_rank_76 : decode cX11_rank 76 = .ok (.invokevirtual 74, 3) := by decide +kernel
theorem dX11_rank_79 : decode cX11_rank 79 = .ok (.if_icmp .ne 13, 3) := by decide +kernel
theorem dX11_rank_82 : decode cX11_rank 82 = .ok (.iload 5, 2) := by decide +kernel
theorem dX11_rank_84 : decode cX11_rank 84 = .ok (.iload_n 3, 1) := by decide +kernel
theorem dX11_rank_85 : decode cX11_rank 85 = .ok (.if_icmp .ge 7, 3) := by decide +kernel
theorem dX11_rank_25 : decode cX11_rank 25 = .ok (.iload_n 3, 1) := by decide +kernel
theorem dX11_rank_26 : decode cX11_rank 26 = .ok (.aload_n 0, 1) := by decide +kernel
theorem dX11_rank_27 : decode cX11_rank 27 = .ok (.getfield 224, 3) := by decide +kernel
theorem dX11_rank_30 : decode cX11_rank 30 = .ok (.if_icmp .ge 86, 3) := by decide +kernel
theorem dX11_rank_33 : decode cX11_rank 33 = .ok (.iconst 0, 1) := by decide +kernel
theorem dX11_rank_34 : decode cX11_rank 34 = .ok (.istore 4, 2) := by decide +kernel
theorem dX11_rank_36 : decode cX11_rank 36 = .ok (.iconst 0, 1) := by decide +kernel
theorem dX11_rank_37 : decode cX11_rank 37 = .ok (.istore 5, 2) := by decide +kernel
theorem dX11_rank_23 : decode cX11_rank 23 = .ok (.iconst 0, 1) := by decide +kernel
theorem dX11_rank_24 : decode cX11_rank 24 = .ok (.istore_n 3, 1) := by decide +kernel
theorem dX11_rank_21 : decode cX11_rank 21 = .ok (.iconst 0, 1) := by decide +kernel
theorem dX11_rank_22 : decode cX11_rank 22 = .ok (.ireturn, 1) := by decide +kernel
theorem dX11_rank_0 : decode cX11_rank 0 = .ok (.aload_n 0, 1) := by decide +kernel
theorem dX11_rank_1 : decode cX11_rank 1 = .ok (.iconst 0, 1) := by decide +kernel
theorem dX11_rank_2 : decode cX11_rank 2 = .ok (.putfield 1, 3) := by decide +kernel
theorem dX11_rank_5 : decode cX11_rank 5 = .ok (.aload_n 0, 1) := by decide +kernel
theorem dX11_rank_6 : decode cX11_rank 6 = .ok (.iload_n 1, 1) := by decide +kernel
theorem dX11_rank_7 : decode cX11_rank 7 = .ok (.invokevirtual 236, 3) := by decide +kernel
theorem dX11_rank_10 : decode cX11_rank 10 = .ok (.ifCond .eq 11, 3) := by decide +kernel
theorem dX11_rank_13 : decode cX11_rank 13 = .ok (.aload_n 0, 1) := by decide +kernel
theorem dX11_rank_14 : decode cX11_rank 14 = .ok (.iload_n 2, 1) := by decide +kernel
theorem dX11_rank_15 : decode cX11_rank 15 = .ok (.invokevirtual 276, 3) := by decide +kernel
theorem dX11_rank_18 : decode cX11_rank 18 = .ok (.ifCond .ne 5, 3) := by decide +kernel
/-! the reference's public questions: frames, the small ones -/
/-- what a question of the reference may change -/
def fq (y : Nat) (h h' : zH) : Prop := (∀ q, q < y ∨ y + 18 ≤ q → h'.1 q = h.1 q ∧ h'.2.1 q = h.2.1 q) ∧ h'.2.2 = h.2.2 ∧ (∀ k, (9 ≤ k ∧ k ≤ 11) ∨ k = 17 ∨ k = 23 → h'.1 y k = h.1 y k) ∧ ∀ j, j = 2 ∨ j = 4 ∨ j = 5 ∨ j = 6 ∨ j = 12 → h'.1 (y + j) = h.1 (y + j)
def rok (y : Nat) (h h' : zH) : Prop := h'.1 y 0 = 0 ∧ h'.1 (y + 1) = h.1 (y + 1)
def rno (y : Nat) (c : Int32) (k : Nat) (h h' : zH) : Prop := h'.1 y 0 = c ∧ h'.1 (y + 1) = va_up (h.1 (y + 1)) k (h.1 (y + 1) k + 1)
theorem fq_0 (y : Nat) (h : zH) : fq y h (zsI h y 0 0) ∧ rok y h (zsI h y 0 0) := ⟨⟨fun q hq => ⟨zsI_ro _ _ _ (by omega), rfl⟩, rfl, fun k hk => zsI_at _ _ _ _ _ (by omega), fun j hj => zsI_ro _ _ _ (by omega)⟩, zsI_me _ _ _ _, zsI_ro _ _ _ (by omega)⟩
theorem fq_fm {y : Nat} {h h1 h' : zH} (a : fq y h h1 ∧ rok y h h1) (f : fm y h1 h') : fq y h h' ∧ rok y h h' := by
  obtain ⟨⟨a1, a2, a3, a4⟩, a5, a6⟩ := a
  refine ⟨⟨fun q hq => ⟨((f.1 q hq).1).trans (a1 q hq).1, ((f.1 q hq).2).trans (a1 q hq).2⟩, f.2.1.trans a2, fun k hk => (f.2.2.1 k (by omega)).trans (a3 k hk), fun j hj => (f.2.2.2 j (by omega)).trans (a4 j hj)⟩, (f.2.2.1 0 (by omega)).trans a5, (f.2.2.2 1 (by omega)).trans a6⟩
theorem fq_rf {y k : Nat} {h h1 : zH} (c : Int32) (a : fq y h h1 ∧ rok y h h1) : fq y h (rfz h1 y c k) ∧ rno y c k h (rfz h1 y c k) := by
  obtain ⟨⟨a1, a2, a3, a4⟩, a5, a6⟩ := a
  unfold rfz
  refine ⟨⟨fun q hq => ⟨?_, (a1 q hq).2⟩, a2, fun k hk => ?_, fun j hj => ?_⟩, ?_, ?_⟩
  · rw [zsI_ro _ _ _ (by omega), zsI_ro _ _ _ (by omega)]; exact (a1 q hq).1
  · rw [zsI_ro _ _ _ (by omega), zsI_at _ _ _ _ _ (by omega)]; exact a3 k hk
  · rw [zsI_ro _ _ _ (by omega), zsI_ro _ _ _ (by omega)]; exact a4 j hj
  · rw [zsI_ro _ _ _ (by omega), zsI_me]
  · rw [zsI_W (zsI h1 y 0 c), zsW_s, zsI_ro _ _ _ (by omega), a6]
theorem gno {p : Prop} [Decidable p] (d : bI (decide p) = 0) : ¬ p := fun z => by rw [decide_eq_true z] at d; exact absurd d (by decide)
theorem gok {p : Prop} [Decidable p] (d : ¬ bI (decide p) = 0) : p := Decidable.byContradiction (fun z => by rw [decide_eq_false z] at d; exact absurd rfl d)
theorem ring_no {S : zD} {y : Nat} {i : Int32} {h : zH} (d : cf_X11_isRing (S, y, i) h = 0) : ¬ gC i (dN S) ∧ cg_X11_isRing (S, y, i) h = rfz h y 1 0 := by
  have g := gno (p := 0 ≤ i ∧ i < nI (dN S)) d
  refine ⟨g, ?_⟩
  show (if decide (0 ≤ i ∧ i < nI (dN S)) then h else rfz h y 1 0) = _
  rw [decide_eq_false g]; rfl
theorem ring_ok {S : zD} {y : Nat} {i : Int32} {h : zH} (d : ¬ cf_X11_isRing (S, y, i) h = 0) : gC i (dN S) ∧ cg_X11_isRing (S, y, i) h = h := by
  have g := gok (p := 0 ≤ i ∧ i < nI (dN S)) d
  refine ⟨g, ?_⟩
  show (if decide (0 ≤ i ∧ i < nI (dN S)) then h else rfz h y 1 0) = _
  rw [decide_eq_true g]; rfl
theorem pair_no {S : zD} {y : Nat} {i : Int32} {h : zH} (d : cf_X11_isPair (S, y, i) h = 0) : ¬ gC i (dP S) ∧ cg_X11_isPair (S, y, i) h = rfz h y 1 0 := by
  have g := gno (p := 0 ≤ i ∧ i < nI (dP S)) d
  refine ⟨g, ?_⟩
  show (if decide (0 ≤ i ∧ i < nI (dP S)) then h else rfz h y 1 0) = _
  rw [decide_eq_false g]; rfl
theorem pair_ok {S : zD} {y : Nat} {i : Int32} {h : zH} (d : ¬ cf_X11_isPair (S, y, i) h = 0) : gC i (dP S) ∧ cg_X11_isPair (S, y, i) h = h := by
  have g := gok (p := 0 ≤ i ∧ i < nI (dP S)) d
  refine ⟨g, ?_⟩
  show (if decide (0 ≤ i ∧ i < nI (dP S)) then h else rfz h y 1 0) = _
  rw [decide_eq_true g]; rfl
theorem heat_no {y : Nat} {te : Int32} {h : zH} (d : cf_X11_isHeat (y, te) h = 0) : ¬ gR te (-40) 125 ∧ cg_X11_isHeat (y, te) h = rfz h y 2 1 := by
  have g := gno (p := -40 ≤ te ∧ te ≤ 125) d
  refine ⟨g, ?_⟩
  show (if decide (-40 ≤ te ∧ te ≤ 125) then h else rfz h y 2 1) = _
  rw [decide_eq_false g]; rfl
theorem heat_ok {y : Nat} {te : Int32} {h : zH} (d : ¬ cf_X11_isHeat (y, te) h = 0) : gR te (-40) 125 ∧ cg_X11_isHeat (y, te) h = h := by
  have g := gok (p := -40 ≤ te ∧ te ≤ 125) d
  refine ⟨g, ?_⟩
  show (if decide (-40 ≤ te ∧ te ≤ 125) then h else rfz h y 2 1) = _
  rw [decide_eq_true g]; rfl
theorem fine_no {y k : Nat} {p : Prop} [Decidable p] {c : Int32} {h : zH} (ht : h.1 y 0 = 0) (d : cf_X11_isFine (y, decide p, c, k) h = 0) : ¬ p ∧ cg_X11_isFine (y, decide p, c, k) h = rfz h y c k := by
  obtain ⟨e1, e2⟩ := fineB (b := decide p) (c := c) (k := k) ht
  rw [e1] at d
  have g := gno d
  refine ⟨g, ?_⟩
  rw [e2, decide_eq_false g]; rfl
theorem fine_ok {y k : Nat} {p : Prop} [Decidable p] {c : Int32} {h : zH} (ht : h.1 y 0 = 0) (d : ¬ cf_X11_isFine (y, decide p, c, k) h = 0) : p ∧ cg_X11_isFine (y, decide p, c, k) h = h := by
  obtain ⟨e1, e2⟩ := fineB (b := decide p) (c := c) (k := k) ht
  rw [e1] at d
  have g := gok d
  refine ⟨g, ?_⟩
  rw [e2, decide_eq_true g]; rfl
theorem rmS_0 {S : zD} {h : zH} {y : Nat} (hS : rmS S h y) : rmS S (zsI h y 0 0) y := rmS_cg ⟨zsI_at _ _ _ _ _ (by decide), zsI_at _ _ _ _ _ (by decide)⟩ (zsI_ro _ _ _ (by omega)) (zsI_ro _ _ _ (by omega)) (zsI_ro _ _ _ (by omega)) hS
theorem t0 (h : zH) (y : Nat) : (zsI h y 0 0).1 y 0 = 0 := zsI_me _ _ _ _
def ca_X11_thrown : (Nat) → List zV := fun y => [vR 20 0 y]
def cp_X11_thrown : (Nat) → zH → Prop := fun _ _ => True
def cf_X11_thrown : (Nat) → zH → Int32 := fun y h => h.1 y 0
theorem rc_X11_thrown : ∀ x : (Nat), ∃ (j a : Nat) (As : List zV), ca_X11_thrown x = vR (10 + 10) j a :: As := by
  rintro y
  exact ⟨_, _, _, rfl⟩
set_option maxHeartbeats 4000000 in
set_option maxRecDepth 100000 in
theorem m_X11_thrown : zM yX11_thrown cX11_thrown 1 (some .int) ({ frames := 0, cells := 0, slots := 0, locals := 0 } : Room) (zcI ca_X11_thrown cp_X11_thrown cf_X11_thrown) := by
  refine zM_of (by decide) ?_
  rintro X Y y h _ O E hR
  have B_0 := zr_aload_n (X := X) (Y := Y) (u := 0) (v := 0) O dX11_thrown_0 rfl (zr_gI (ci := 10) (j := 0) O zc_10 (by decide) rfl tw_1187 dX11_thrown_1 (zr_ireturn O E (Nat.le_refl _) (Nat.le_refl _) dX11_thrown_4))
  refine ⟨rfl, Nat.le_of_ble_eq_true rfl, _, B_0, ?_⟩
  exact ⟨zri rfl, rfl⟩
def ca_X11_fault : (Nat) → List zV := fun y => [vR 20 0 y]
def cp_X11_fault : (Nat) → zH → Prop := fun _ _ => True
def cq_X11_fault : (Nat) → zH → Option zV → zH → Prop := fun y h r h' => r = some (vI (h.1 y 23)) ∧ fq y h h' ∧ rok y h h'
theorem rc_X11_fault : ∀ x : (Nat), ∃ (j a : Nat) (As : List zV), ca_X11_fault x = vR (10 + 10) j a :: As := by
  rintro y
  exact ⟨_, _, _, rfl⟩
set_option maxHeartbeats 4000000 in
set_option maxRecDepth 100000 in
theorem m_X11_fault : zM yX11_fault cX11_fault 1 (some .int) ({ frames := 0, cells := 0, slots := 0, locals := 0 } : Room) ((ca_X11_fault, cp_X11_fault, cq_X11_fault) : zC (Nat)) := by
  refine zM_of (by decide) ?_
  rintro X Y y h _ O E hR
  have B_0 := zr_aload_n (X := X) (Y := Y) (u := 0) (v := 0) O dX11_fault_0 rfl (zr_iconst (x := 0) O dX11_fault_1 rfl (zr_pI (ci := 10) (j := 0) O zc_10 (by decide) rfl rfl rfl tw_1187 dX11_fault_2 (zr_aload_n O dX11_fault_5 rfl (zr_gI (ci := 10) (j := 23) O zc_10 (by decide) rfl tw_1210 dX11_fault_6 (zr_ireturn O E (Nat.le_refl _) (Nat.le_refl _) dX11_fault_9)))))
  refine ⟨rfl, Nat.le_of_ble_eq_true rfl, _, B_0, ?_⟩
  exact ⟨zri (zsI_at _ _ _ _ _ (by decide)), (fq_0 y h).1, (fq_0 y h).2⟩
def ca_X11_status : (Nat × Int32) → List zV := fun (y, w) => [vR 20 0 y, vI w]
def cp_X11_status : (Nat × Int32) → zH → Prop := fun _ _ => True
def cq_X11_status : (Nat × Int32) → zH → Option zV → zH → Prop := fun (y, w) h r h' => r = some (vI (if w = 0 then h.1 (y + 1) 0 else if w = 1 then h.1 (y + 1) 1 else if w = 2 then h.1 (y + 1) 2 else -1)) ∧ fq y h h' ∧ rok y h h'
theorem rc_X11_status : ∀ x : (Nat × Int32), ∃ (j a : Nat) (As : List zV), ca_X11_status x = vR (10 + 10) j a :: As := by
  rintro ⟨y, w⟩
  exact ⟨_, _, _, rfl⟩
set_option maxHeartbeats 4000000 in
set_option maxRecDepth 100000 in
theorem m_X11_status : zM yX11_status cX11_status 2 (some .int) ({ frames := 1, cells := 0, slots := 0, locals := 22 } : Room) ((ca_X11_status, cp_X11_status, cq_X11_status) : zC (Nat × Int32)) := by
  refine zM_of (by decide) ?_
  rintro X Y ⟨y, w⟩ h _ O E hR
  have B_24 := zr_ireturn (X := X) (Y := Y) (u := 0) (v := 0) O E (Nat.le_refl _) (Nat.le_refl _) dX11_status_24
  have B_23 := zr_iconst (X := X) (Y := Y) (u := 0) (v := 0) (x := (-1)) O dX11_status_23 rfl (B_24)
  have B_0 := zr_aload_n (X := X) (Y := Y) (u := 0) (v := 0) O dX11_status_0 rfl (zr_iconst (x := 0) O dX11_status_1 rfl (zr_pI (ci := 10) (j := 0) O zc_10 (by decide) rfl rfl rfl tw_1187 dX11_status_2 (zr_iload_n O dX11_status_5 rfl (zr_iconst (x := 0) O dX11_status_6 rfl (zr_iconst (x := 2) O dX11_status_7 rfl (zr_cI (zr_cS (n := 3) O m_X11_within (bn_X11_within _ ⟨rfl, rfl⟩) tw_1306 tw_1305 (zrm hR rfl rfl) dX11_status_8 (zr_ifeq (tgt := 23) O dX11_status_11 rfl B_23 (zr_aload_n O dX11_status_14 rfl (zr_gS (ci := 10) (j := 1) (off := 1) (t := 1) (n := 3) O zc_10 (by decide) rfl tw_1188 dX11_status_15 (zr_iload_n O dX11_status_18 rfl (zr_iald O dX11_status_19 (zr_goto (tgt := 24) O dX11_status_20 rfl B_24)))))))))))))
  refine ⟨rfl, Nat.le_of_ble_eq_true rfl, _, B_0, ?_⟩
  have gq : gC w 3 ↔ (0 ≤ w ∧ w ≤ 2) := (gC_w (n := 3) (by decide)).symm
  refine ⟨(w, 0, 2), rfl, trivial, fun d => ⟨zri ?_, (fq_0 y h).1, (fq_0 y h).2⟩, fun d => ?_⟩
  · have g := gno (p := 0 ≤ w ∧ w ≤ 2) d
    rw [if_neg (fun z => g (by rw [z]; decide)), if_neg (fun z => g (by rw [z]; decide)), if_neg (fun z => g (by rw [z]; decide))]
  · have g := gq.mpr (gok (p := 0 ≤ w ∧ w ≤ 2) d)
    obtain ⟨p, rfl, hp, ep⟩ := cntx (by decide) g
    refine ⟨p, rfl, hp, zri ?_, (fq_0 y h).1, (fq_0 y h).2⟩
    rw [zsI_ro _ _ _ (by omega)]
    have : p = 0 ∨ p = 1 ∨ p = 2 := by omega
    rcases this with z | z | z <;> rw [z] <;> rfl
def ca_X11_speed : (zD × Nat × Int32 × Int32) → List zV := fun (S, y, i, te) => [vR 20 0 y, vI i, vI te]
def cp_X11_speed : (zD × Nat × Int32 × Int32) → zH → Prop := fun (S, y, i, te) h => rmS S h y
def cq_X11_speed : (zD × Nat × Int32 × Int32) → zH → Option zV → zH → Prop := fun (S, y, i, te) h r h' => fq y h h' ∧ ((gC i (dN S) ∧ gR te (-40) 125 ∧ rok y h h' ∧ r = some (vI (spd S (cN i) te))) ∨ (¬ gC i (dN S) ∧ rno y 1 0 h h' ∧ r = some (vI 0)) ∨ (gC i (dN S) ∧ ¬ gR te (-40) 125 ∧ rno y 2 1 h h' ∧ r = some (vI 0)))
theorem rc_X11_speed : ∀ x : (zD × Nat × Int32 × Int32), ∃ (j a : Nat) (As : List zV), ca_X11_speed x = vR (10 + 10) j a :: As := by
  rintro ⟨S, y, i, te⟩
  exact ⟨_, _, _, rfl⟩
set_option maxHeartbeats 4000000 in
set_option maxRecDepth 100000 in
theorem m_X11_speed : zM yX11_speed cX11_speed 3 (some .int) ({ frames := 2, cells := 0, slots := 0, locals := 44 } : Room) ((ca_X11_speed, cp_X11_speed, cq_X11_speed) : zC (zD × Nat × Int32 × Int32)) := by
  refine zM_of (by decide) ?_
  rintro X Y ⟨S, y, i, te⟩ h hS O E hR
  have B_31 := zr_ireturn (X := X) (Y := Y) (u := 0) (v := 0) O E (Nat.le_refl _) (Nat.le_refl _) dX11_speed_31
  have B_30 := zr_iconst (X := X) (Y := Y) (u := 0) (v := 0) (x := 0) O dX11_speed_30 rfl (B_31)
  have B_0 := zr_aload_n (X := X) (Y := Y) (u := 0) (v := 0) O dX11_speed_0 rfl (zr_iconst (x := 0) O dX11_speed_1 rfl (zr_pI (ci := 10) (j := 0) O zc_10 (by decide) rfl rfl rfl tw_1187 dX11_speed_2 (zr_aload_n O dX11_speed_5 rfl (zr_iload_n O dX11_speed_6 rfl (zr_cH (zr_cV (ci := 10) (n := 1) O m_X11_isRing (bn_X11_isRing _ ⟨rfl, rfl⟩) vw_X11_isRing tw_1383 rc_X11_isRing (zrm hR rfl rfl) dX11_speed_7 (zr_ifeq (tgt := 30) O dX11_speed_10 rfl B_30 (zr_aload_n O dX11_speed_13 rfl (zr_iload_n O dX11_speed_14 rfl (zr_cH (zr_cV (ci := 10) (n := 1) O m_X11_isHeat (bn_X11_isHeat _ ⟨rfl, rfl⟩) vw_X11_isHeat tw_1515 rc_X11_isHeat (zrm hR rfl rfl) dX11_speed_15 (zr_ifeq (tgt := 30) O dX11_speed_18 rfl B_30 (zr_aload_n O dX11_speed_21 rfl (zr_iload_n O dX11_speed_22 rfl (zr_iload_n O dX11_speed_23 rfl (zr_cI (zr_cV (ci := 10) (n := 2) O m_X11_speedOf (bn_X11_speedOf _ ⟨rfl, rfl⟩) vw_X11_speedOf tw_1415 rc_X11_speedOf (zrm hR rfl rfl) dX11_speed_24 (zr_goto (tgt := 31) O dX11_speed_27 rfl B_31))))))))))))))))))
  refine ⟨rfl, Nat.le_of_ble_eq_true rfl, _, B_0, ?_⟩
  have hS : rmS S h y := hS
  have hN := hS.1.2
  refine ⟨(S, y, i), rfl, ⟨rmS_0 hS, t0 h y⟩, fun d => ?_, fun d => ?_⟩
  · obtain ⟨g, e⟩ := ring_no d
    rw [e]
    exact ⟨(fq_rf 1 (fq_0 y h)).1, Or.inr (Or.inl ⟨g, (fq_rf 1 (fq_0 y h)).2, rfl⟩)⟩
  · obtain ⟨g, e⟩ := ring_ok d
    rw [e]
    refine ⟨(y, te), rfl, t0 h y, fun d => ?_, fun d => ?_⟩
    · obtain ⟨g2, e⟩ := heat_no d
      rw [e]
      exact ⟨(fq_rf 2 (fq_0 y h)).1, Or.inr (Or.inr ⟨g, g2, (fq_rf 2 (fq_0 y h)).2, rfl⟩)⟩
    · obtain ⟨g2, e⟩ := heat_ok d
      rw [e]
      obtain ⟨p, rfl, hp, ep⟩ := cntx (by omega) g
      refine ⟨(S, y, p, te), rfl, ⟨rmS_0 hS, hp⟩, (fq_0 y h).1, Or.inl ⟨g, g2, (fq_0 y h).2, zri ?_⟩⟩
      rw [ep]; rfl
def ca_X11_bit : (zD × Nat × Int32 × Int32) → List zV := fun (S, y, i, te) => [vR 20 0 y, vI i, vI te]
def cp_X11_bit : (zD × Nat × Int32 × Int32) → zH → Prop := fun (S, y, i, te) h => rmS S h y
def cq_X11_bit : (zD × Nat × Int32 × Int32) → zH → Option zV → zH → Prop := fun (S, y, i, te) h r h' => fq y h h' ∧ ((gC i (dP S) ∧ gR te (-40) 125 ∧ rok y h h' ∧ r = some (vI (pba S (cN i) te))) ∨ (¬ gC i (dP S) ∧ rno y 1 0 h h' ∧ r = some (vI 0)) ∨ (gC i (dP S) ∧ ¬ gR te (-40) 125 ∧ rno y 2 1 h h' ∧ r = some (vI 0)))
theorem rc_X11_bit : ∀ x : (zD × Nat × Int32 × Int32), ∃ (j a : Nat) (As : List zV), ca_X11_bit x = vR (10 + 10) j a :: As := by
  rintro ⟨S, y, i, te⟩
  exact ⟨_, _, _, rfl⟩
set_option maxHeartbeats 4000000 in
set_option maxRecDepth 100000 in
theorem m_X11_bit : zM yX11_bit cX11_bit 3 (some .int) ({ frames := 2, cells := 0, slots := 0, locals := 45 } : Room) ((ca_X11_bit, cp_X11_bit, cq_X11_bit) : zC (zD × Nat × Int32 × Int32)) := by
  refine zM_of (by decide) ?_
  rintro X Y ⟨S, y, i, te⟩ h hS O E hR
  have B_31 := zr_ireturn (X := X) (Y := Y) (u := 0) (v := 0) O E (Nat.le_refl _) (Nat.le_refl _) dX11_bit_31
  have B_30 := zr_iconst (X := X) (Y := Y) (u := 0) (v := 0) (x := 0) O dX11_bit_30 rfl (B_31)
  have B_0 := zr_aload_n (X := X) (Y := Y) (u := 0) (v := 0) O dX11_bit_0 rfl (zr_iconst (x := 0) O dX11_bit_1 rfl (zr_pI (ci := 10) (j := 0) O zc_10 (by decide) rfl rfl rfl tw_1187 dX11_bit_2 (zr_aload_n O dX11_bit_5 rfl (zr_iload_n O dX11_bit_6 rfl (zr_cH (zr_cV (ci := 10) (n := 1) O m_X11_isPair (bn_X11_isPair _ ⟨rfl, rfl⟩) vw_X11_isPair tw_1459 rc_X11_isPair (zrm hR rfl rfl) dX11_bit_7 (zr_ifeq (tgt := 30) O dX11_bit_10 rfl B_30 (zr_aload_n O dX11_bit_13 rfl (zr_iload_n O dX11_bit_14 rfl (zr_cH (zr_cV (ci := 10) (n := 1) O m_X11_isHeat (bn_X11_isHeat _ ⟨rfl, rfl⟩) vw_X11_isHeat tw_1515 rc_X11_isHeat (zrm hR rfl rfl) dX11_bit_15 (zr_ifeq (tgt := 30) O dX11_bit_18 rfl B_30 (zr_aload_n O dX11_bit_21 rfl (zr_iload_n O dX11_bit_22 rfl (zr_iload_n O dX11_bit_23 rfl (zr_cI (zr_cV (ci := 10) (n := 2) O m_X11_bitAt (bn_X11_bitAt _ ⟨rfl, rfl⟩) vw_X11_bitAt tw_1423 rc_X11_bitAt (zrm hR rfl rfl) dX11_bit_24 (zr_goto (tgt := 31) O dX11_bit_27 rfl B_31))))))))))))))))))
  refine ⟨rfl, Nat.le_of_ble_eq_true rfl, _, B_0, ?_⟩
  have hS : rmS S h y := hS
  have hN := hS.2.1.2
  refine ⟨(S, y, i), rfl, ⟨rmS_0 hS, t0 h y⟩, fun d => ?_, fun d => ?_⟩
  · obtain ⟨g, e⟩ := pair_no d
    rw [e]
    exact ⟨(fq_rf 1 (fq_0 y h)).1, Or.inr (Or.inl ⟨g, (fq_rf 1 (fq_0 y h)).2, rfl⟩)⟩
  · obtain ⟨g, e⟩ := pair_ok d
    rw [e]
    refine ⟨(y, te), rfl, t0 h y, fun d => ?_, fun d => ?_⟩
    · obtain ⟨g2, e⟩ := heat_no d
      rw [e]
      exact ⟨(fq_rf 2 (fq_0 y h)).1, Or.inr (Or.inr ⟨g, g2, (fq_rf 2 (fq_0 y h)).2, rfl⟩)⟩
    · obtain ⟨g2, e⟩ := heat_ok d
      rw [e]
      obtain ⟨p, rfl, hp, ep⟩ := cntx (by omega) g
      refine ⟨(S, y, p, te), rfl, ⟨rmS_0 hS, hp⟩, (fq_0 y h).1, Or.inl ⟨g, g2, (fq_0 y h).2, zri ?_⟩⟩
      rw [ep]; rfl
def ca_X11_ring : (zQ × Nat × Int32 × Int32) → List zV := fun (Q, y, i, w) => [vR 20 0 y, vI i, vI w]
def cp_X11_ring : (zQ × Nat × Int32 × Int32) → zH → Prop := fun (Q, y, i, w) h => rmS Q.1 h y ∧ rmL Q.2.2 (h.1 (y + 2))
def cq_X11_ring : (zQ × Nat × Int32 × Int32) → zH → Option zV → zH → Prop := fun (Q, y, i, w) h r h' => fq y h h' ∧ ((gC i (dN Q.1) ∧ gR w 0 4 ∧ rok y h h' ∧ r = some (vI (rgv Q (cN i) (cN w)))) ∨ (¬ gC i (dN Q.1) ∧ rno y 1 0 h h' ∧ r = some (vI 0)) ∨ (gC i (dN Q.1) ∧ ¬ gR w 0 4 ∧ rno y 2 1 h h' ∧ r = some (vI 0)))
theorem rc_X11_ring : ∀ x : (zQ × Nat × Int32 × Int32), ∃ (j a : Nat) (As : List zV), ca_X11_ring x = vR (10 + 10) j a :: As := by
  rintro ⟨⟨S, K, M⟩, y, i, w⟩
  exact ⟨_, _, _, rfl⟩
set_option maxHeartbeats 4000000 in
set_option maxRecDepth 100000 in
theorem m_X11_ring : zM yX11_ring cX11_ring 3 (some .int) ({ frames := 2, cells := 0, slots := 0, locals := 44 } : Room) ((ca_X11_ring, cp_X11_ring, cq_X11_ring) : zC (zQ × Nat × Int32 × Int32)) := by
  refine zM_of (by decide) ?_
  rintro X Y ⟨⟨S, K, M⟩, y, i, w⟩ h ⟨hS, hL⟩ O E hR
  have B_72 := zr_ireturn (X := X) (Y := Y) (u := 0) (v := 0) O E (Nat.le_refl _) (Nat.le_refl _) dX11_ring_72
  have B_67 := zr_aload_n (X := X) (Y := Y) (u := 0) (v := 0) O dX11_ring_67 rfl (zr_iload_n O dX11_ring_68 rfl (zr_cI (zr_cV (ci := 10) (n := 1) O m_X11_pairsWith (bn_X11_pairsWith _ ⟨rfl, rfl⟩) vw_X11_pairsWith tw_1507 rc_X11_pairsWith (zrm hR rfl rfl) dX11_ring_69 (B_72))))
  have B_50 := zr_iload_n (X := X) (Y := Y) (u := 0) (v := 0) O dX11_ring_50 rfl (zr_iconst (x := 3) O dX11_ring_51 rfl (zr_icne (tgt := 67) O dX11_ring_52 rfl B_67 (zr_aload_n O dX11_ring_55 rfl (zr_gS (ci := 10) (j := 2) (off := 2) (t := 1) (n := 218) O zc_10 (by decide) rfl tw_1189 dX11_ring_56 (zr_bipush (x := (35)) O dX11_ring_59 (by decide) (zr_iload_n O dX11_ring_61 rfl (zr_iadd O dX11_ring_62 (zr_iald O dX11_ring_63 (zr_goto (tgt := 72) O dX11_ring_64 rfl B_72)))))))))
  have B_30 := zr_iload_n (X := X) (Y := Y) (u := 0) (v := 0) O dX11_ring_30 rfl (zr_iconst (x := 3) O dX11_ring_31 rfl (zr_icge (tgt := 50) O dX11_ring_32 rfl B_50 (zr_aload_n O dX11_ring_35 rfl (zr_gS (ci := 10) (j := 2) (off := 2) (t := 1) (n := 218) O zc_10 (by decide) rfl tw_1189 dX11_ring_36 (zr_iconst (x := 5) O dX11_ring_39 rfl (zr_iconst (x := 3) O dX11_ring_40 rfl (zr_iload_n O dX11_ring_41 rfl (zr_imul O dX11_ring_42 (zr_iadd O dX11_ring_43 (zr_iload_n O dX11_ring_44 rfl (zr_iadd O dX11_ring_45 (zr_iald O dX11_ring_46 (zr_goto (tgt := 72) O dX11_ring_47 rfl B_72)))))))))))))
  have B_28 := zr_iconst (X := X) (Y := Y) (u := 0) (v := 0) (x := 0) O dX11_ring_28 rfl (zr_ireturn O E (Nat.le_refl _) (Nat.le_refl _) dX11_ring_29)
  have B_0 := zr_aload_n (X := X) (Y := Y) (u := 0) (v := 0) O dX11_ring_0 rfl (zr_iconst (x := 0) O dX11_ring_1 rfl (zr_pI (ci := 10) (j := 0) O zc_10 (by decide) rfl rfl rfl tw_1187 dX11_ring_2 (zr_aload_n O dX11_ring_5 rfl (zr_iload_n O dX11_ring_6 rfl (zr_cH (zr_cV (ci := 10) (n := 1) O m_X11_isRing (bn_X11_isRing _ ⟨rfl, rfl⟩) vw_X11_isRing tw_1383 rc_X11_isRing (zrm hR rfl rfl) dX11_ring_7 (zr_ifeq (tgt := 28) O dX11_ring_10 rfl B_28 (zr_aload_n O dX11_ring_13 rfl (zr_iload_n O dX11_ring_14 rfl (zr_iconst (x := 0) O dX11_ring_15 rfl (zr_iconst (x := 4) O dX11_ring_16 rfl (zr_cI (zr_cS (n := 3) O m_X11_within (bn_X11_within _ ⟨rfl, rfl⟩) tw_1306 tw_1305 (zrm hR rfl rfl) dX11_ring_17 (zr_iconst (x := 2) O dX11_ring_20 rfl (zr_iconst (x := 1) O dX11_ring_21 rfl (zr_cH (zr_cV (ci := 10) (n := 3) O m_X11_isFine (bn_X11_isFine _ ⟨rfl, rfl⟩) vw_X11_isFine tw_1308 rc_X11_isFine (zrm hR rfl rfl) dX11_ring_22 (zr_ifne (tgt := 30) O dX11_ring_25 rfl B_30 (B_28)))))))))))))))))))
  refine ⟨rfl, Nat.le_of_ble_eq_true rfl, _, B_0, ?_⟩
  have hS : rmS S h y := hS
  have hL : rmL M (h.1 (y + 2)) := hL
  have hN := hS.1.2
  refine ⟨(S, y, i), rfl, ⟨rmS_0 hS, t0 h y⟩, fun d => ?_, fun d => ?_⟩
  · obtain ⟨g, e⟩ := ring_no d
    rw [e]
    exact ⟨(fq_rf 1 (fq_0 y h)).1, Or.inr (Or.inl ⟨g, (fq_rf 1 (fq_0 y h)).2, rfl⟩)⟩
  · obtain ⟨g, e⟩ := ring_ok d
    rw [e]
    refine ⟨(w, 0, 4), rfl, trivial, (y, decide (0 ≤ w ∧ w ≤ 4), 2, 1), rfl, ⟨by decide, by decide⟩, fun d => ?_, fun d => ?_⟩
    · obtain ⟨g2, e⟩ := fine_ok (t0 h y) d
      rw [e]
      obtain ⟨p, rfl, hp, ep⟩ := cntx (by omega) g
      obtain ⟨q, rfl, hq, eq⟩ := rngx (n := 4) (by decide) g2
      have fin : ∀ v : Int32, v = rgv (S, K, M) p q → fq y h (zsI h y 0 0) ∧ ((gC (nI p) (dN S) ∧ gR (nI q) 0 4 ∧ rok y h (zsI h y 0 0) ∧ some (vI v) = some (vI (rgv (S, K, M) (cN (nI p)) (cN (nI q))))) ∨ (¬ gC (nI p) (dN S) ∧ rno y 1 0 h (zsI h y 0 0) ∧ some (vI v) = some (vI 0)) ∨ (gC (nI p) (dN S) ∧ ¬ gR (nI q) 0 4 ∧ rno y 2 1 h (zsI h y 0 0) ∧ some (vI v) = some (vI 0))) := fun v ev => ⟨(fq_0 y h).1, Or.inl ⟨g, g2, (fq_0 y h).2, by rw [ep, eq, ev]⟩⟩
      have m2 : (zsI h y 0 0).1 (y + 2) = h.1 (y + 2) := zsI_ro _ _ _ (by omega)
      obtain ⟨r1, r2, r3⟩ := hS.2.2.1 p hp
      refine ⟨fun c => ⟨fun c2 => ⟨(S, y, p), rfl, ⟨rmS_0 hS, by show p < 10; omega⟩, fin _ ?_⟩, fun c2 => ⟨35 + p, lI 35 p, by omega, fin _ ?_⟩⟩, fun c => ⟨5 + 3 * p + q, by rw [i53, nI_add], ?_, fin _ ?_⟩⟩
      · have h3 := (nI_leI (a := 3) (by omega) (by omega)).mp c
        have h4 : ¬ q = 3 := fun z => c2 (by rw [z]; rfl)
        rw [rgv, if_neg (by omega), if_neg (by omega), if_neg (by omega), if_neg h4]; rfl
      · have h4 : q = 3 := (nI_eq (b := 3) (by omega) (by omega)).mp c2
        rw [rgv, if_neg (by omega), if_neg (by omega), if_neg (by omega), if_pos h4, m2]; exact hL.2.2 p (by omega)
      · have h3 : ¬ 3 ≤ q := fun z => c ((nI_leI (a := 3) (by omega) (by omega)).mpr z)
        omega
      · have h3 : ¬ 3 ≤ q := fun z => c ((nI_leI (a := 3) (by omega) (by omega)).mpr z)
        rw [m2]
        have : q = 0 ∨ q = 1 ∨ q = 2 := by omega
        rcases this with z | z | z <;> rw [z]
        · exact r1
        · exact r2
        · exact r3
    · obtain ⟨g2, e⟩ := fine_no (t0 h y) d
      rw [e]
      exact ⟨(fq_rf 2 (fq_0 y h)).1, Or.inr (Or.inr ⟨g, g2, (fq_rf 2 (fq_0 y h)).2, rfl⟩)⟩
/-- the first ring with a place, as the reference finds it -/
def rnM (S : zD) (k : Nat) (te : Int32) : Int32 := if fa_first (fun i => decide (rah S i te (dN S) = k)) (dN S) < dN S then nI (fa_first (fun i => decide (rah S i te (dN S) = k)) (dN S)) else 0
def ca_X11_rank : (zD × Nat × Int32 × Int32) → List zV := fun (S, y, i, te) => [vR 20 0 y, vI i, vI te]
def cp_X11_rank : (zD × Nat × Int32 × Int32) → zH → Prop := fun (S, y, i, te) h => rmS S h y
def cq_X11_rank : (zD × Nat × Int32 × Int32) → zH → Option zV → zH → Prop := fun (S, y, i, te) h r h' => fq y h h' ∧ ((gC i (dN S) ∧ gR te (-40) 125 ∧ rok y h h' ∧ r = some (vI (rnM S (cN i) te))) ∨ (¬ gC i (dN S) ∧ rno y 1 0 h h' ∧ r = some (vI 0)) ∨ (gC i (dN S) ∧ ¬ gR te (-40) 125 ∧ rno y 2 1 h h' ∧ r = some (vI 0)))
theorem rc_X11_rank : ∀ x : (zD × Nat × Int32 × Int32), ∃ (j a : Nat) (As : List zV), ca_X11_rank x = vR (10 + 10) j a :: As := by
  rintro ⟨S, y, i, te⟩
  exact ⟨_, _, _, rfl⟩
set_option maxHeartbeats 4000000 in
set_option maxRecDepth 100000 in
theorem m_X11_rank : zM yX11_rank cX11_rank 6 (some .int) ({ frames := 2, cells := 0, slots := 0, locals := 44 } : Room) ((ca_X11_rank, cp_X11_rank, cq_X11_rank) : zC (zD × Nat × Int32 × Int32)) := by
  refine zM_of (by decide) ?_
  rintro X Y ⟨S, y, i, te⟩ h hS O E hR
  have hS : rmS S h y := hS
  have hN10 := hS.1.2
  have hS0 := rmS_0 hS
  have B_116 := zr_iconst (X := X) (Y := Y) (u := 0) (v := 0) (x := 0) O dX11_rank_116 rfl (zr_ireturn O E (Nat.le_refl _) (Nat.le_refl _) dX11_rank_117)
  have L_25 : ∀ nn : Nat, zSd X Y 0 0 25 ((fun c ls st h1 => ∃ (n : Nat) (z : Int32) (y4 y5 : Option zV), c = dN S - n ∧ n ≤ dN S ∧ ls = [some (vR 20 0 y), some (vI i), some (vI te), some (vI z), y4, y5] ∧ z = nI n ∧ st = [] ∧ h1 = zsI h y 0 0 ∧ gC i (dN S) ∧ gR te (-40) 125 ∧ ∀ j, j < n → decide (rah S j te (dN S) = cN i) = false : Nat → zT) nn) := by
    refine zSd_loop (fun nn ih => ?_)
    have B_110 := zr_iinc (X := X) (Y := Y) (u := 0) (v := 0) (c := 1) O dX11_rank_110 rfl (zr_goto (tgt := 25) O dX11_rank_113 rfl ih)
    have B_102 := zr_iload (X := X) (Y := Y) (u := 0) (v := 0) O dX11_rank_102 (zr_iload_n O dX11_rank_104 rfl (zr_icne (tgt := 110) O dX11_rank_105 rfl B_110 (zr_iload_n O dX11_rank_108 rfl (zr_ireturn O E (Nat.le_refl _) (Nat.le_refl _) dX11_rank_109))))
    have L_39 : ∀ nn39 : Nat, zSd X Y 0 0 39 ((fun c ls st h1 => ∃ (n o : Nat) (z u v : Int32), c = dN S - o ∧ o ≤ dN S ∧ nn = dN S - n ∧ n < dN S ∧ ls = [some (vR 20 0 y), some (vI i), some (vI te), some (vI z), some (vI u), some (vI v)] ∧ z = nI n ∧ u = nI (rah S n te o) ∧ v = nI o ∧ st = [] ∧ h1 = zsI h y 0 0 ∧ gC i (dN S) ∧ gR te (-40) 125 ∧ ∀ j, j < n → decide (rah S j te (dN S) = cN i) = false : Nat → zT) nn39) := by
      refine zSd_loop (fun nn39 ih39 => ?_)
      have B_93 := zr_iadd (X := X) (Y := Y) (u := 0) (v := 0) O dX11_rank_93 (zr_istore O dX11_rank_94 (zr_iinc (c := 1) O dX11_rank_96 rfl (zr_goto (tgt := 39) O dX11_rank_99 rfl ih39)))
      have B_92 := zr_iconst (X := X) (Y := Y) (u := 0) (v := 0) (x := 0) O dX11_rank_92 rfl (B_93)
      have B_88 := zr_iconst (X := X) (Y := Y) (u := 0) (v := 0) (x := 1) O dX11_rank_88 rfl (zr_goto (tgt := 93) O dX11_rank_89 rfl B_93)
      have B_39 := zr_iload (X := X) (Y := Y) (u := 0) (v := 0) O dX11_rank_39 (zr_aload_n O dX11_rank_41 rfl (zr_gI (ci := 10) (j := 10) O zc_10 (by decide) rfl tw_1197 dX11_rank_42 (zr_icge (tgt := 102) O dX11_rank_45 rfl B_102 (zr_iload O dX11_rank_48 (zr_aload_n O dX11_rank_50 rfl (zr_iload O dX11_rank_51 (zr_iload_n O dX11_rank_53 rfl (zr_cI (zr_cV (ci := 10) (n := 2) O m_X11_speedOf (bn_X11_speedOf _ ⟨rfl, rfl⟩) vw_X11_speedOf tw_1415 rc_X11_speedOf (zrm hR rfl rfl) dX11_rank_54 (zr_aload_n O dX11_rank_57 rfl (zr_iload_n O dX11_rank_58 rfl (zr_iload_n O dX11_rank_59 rfl (zr_cI (zr_cV (ci := 10) (n := 2) O m_X11_speedOf (bn_X11_speedOf _ ⟨rfl, rfl⟩) vw_X11_speedOf tw_1415 rc_X11_speedOf (zrm hR rfl rfl) dX11_rank_60 (zr_icgt (tgt := 88) O dX11_rank_63 rfl B_88 (zr_aload_n O dX11_rank_66 rfl (zr_iload O dX11_rank_67 (zr_iload_n O dX11_rank_69 rfl (zr_cI (zr_cV (ci := 10) (n := 2) O m_X11_speedOf (bn_X11_speedOf _ ⟨rfl, rfl⟩) vw_X11_speedOf tw_1415 rc_X11_speedOf (zrm hR rfl rfl) dX11_rank_70 (zr_aload_n O dX11_rank_73 rfl (zr_iload_n O dX11_rank_74 rfl (zr_iload_n O dX11_rank_75 rfl (zr_cI (zr_cV (ci := 10) (n := 2) O m_X11_speedOf (bn_X11_speedOf _ ⟨rfl, rfl⟩) vw_X11_speedOf tw_1415 rc_X11_speedOf (zrm hR rfl rfl) dX11_rank_76 (zr_icne (tgt := 92) O dX11_rank_79 rfl B_92 (zr_iload O dX11_rank_82 (zr_iload_n O dX11_rank_84 rfl (zr_icge (tgt := 92) O dX11_rank_85 rfl B_92 (B_88))))))))))))))))))))))))))))))
      refine zSd_weak B_39 (fun ls st h1 t => ?_)
      obtain ⟨n, o, z, u, v, rfl, ho, en, hn, rfl, rfl, rfl, rfl, rfl, rfl, g1, g2, hb⟩ := t
      obtain ⟨p, rfl, hp, ep⟩ := cntx (by omega) g1
      have hr : rah S n te o ≤ o := fb_ct_le _ _
      have e10 : (zsI h y 0 0).1 y 10 = nI (dN S) := hS0.1.1
      refine ⟨fun c => ⟨fun d => ?_, fun d => ?_⟩, fun c => ?_⟩
      · rw [e10] at c
        have := (nI_leI (by omega) (by omega)).mp c
        have ho2 : o = dN S := by omega
        subst ho2
        refine ⟨dN S - (n + 1), by omega, n + 1, _, _, _, rfl, by omega, rfl, nI_1 n, rfl, rfl, g1, g2, fun j hj => ?_⟩
        by_cases e : j = n
        · rw [e, ep]; exact decide_eq_false (fun z => d (by rw [z]))
        · exact hb j (by omega)
      · rw [e10] at c
        have := (nI_leI (by omega) (by omega)).mp c
        have ho2 : o = dN S := by omega
        subst ho2
        have hz := (nI_eq (by omega) (by omega)).mp d
        refine ⟨(fq_0 y h).1, Or.inl ⟨g1, g2, (fq_0 y h).2, zri ?_⟩⟩
        have e : fa_first (fun i => decide (rah S i te (dN S) = p)) (dN S) = n := first_at hn (decide_eq_true hz) (fun j hj => by have := hb j hj; rw [ep] at this; exact this)
        rw [ep, rnM, e, if_pos hn]
      · rw [e10] at c
        have ho2 : o < dN S := Nat.not_le.mp (fun z => c ((nI_leI (by omega) (by omega)).mpr z))
        have next : ∀ v : Bool, decide (spd S n te < spd S o te ∨ spd S o te = spd S n te ∧ o < n) = v → ∃ c, c < dN S - o ∧ ∃ (n_1 o_1 : Nat) (z u v_1 : Int32), c = dN S - o_1 ∧ o_1 ≤ dN S ∧ nn = dN S - n_1 ∧ n_1 < dN S ∧ ([some (vR 20 0 y), some (vI (nI p)), some (vI te), some (vI (nI n)), some (vI (nI (rah S n te o) + bI v)), some (vI (nI o + 1))] : zL) = [some (vR 20 0 y), some (vI (nI p)), some (vI te), some (vI z), some (vI u), some (vI v_1)] ∧ z = nI n_1 ∧ u = nI (rah S n_1 te o_1) ∧ v_1 = nI o_1 ∧ ([] : List zV) = [] ∧ zsI h y 0 0 = zsI h y 0 0 ∧ gC (nI p) (dN S) ∧ gR te (-40) 125 ∧ ∀ j, j < n_1 → decide (rah S j te (dN S) = cN (nI p)) = false := by
          intro v hv
          refine ⟨dN S - (o + 1), by omega, n, o + 1, _, _, _, rfl, by omega, en, hn, rfl, rfl, ?_, nI_1 o, rfl, rfl, g1, g2, hb⟩
          unfold rah
          rw [fb_ct_succ, hv]
          cases v with
          | true => exact nI_1 _
          | false => exact Int32.add_zero _
        refine ⟨(S, y, o, te), rfl, ⟨hS0, ho2⟩, (S, y, n, te), rfl, ⟨hS0, hn⟩, fun d => next true (decide_eq_true (Or.inl d)), fun d => ⟨(S, y, o, te), rfl, ⟨hS0, ho2⟩, (S, y, n, te), rfl, ⟨hS0, hn⟩, fun e => next false (decide_eq_false ?_), fun e => ⟨fun f => next false (decide_eq_false ?_), fun f => next true (decide_eq_true (Or.inr ⟨e, ?_⟩))⟩⟩⟩
        · rintro (z | z)
          · exact d z
          · exact e z.1
        · have := (nI_leI (by omega) (by omega)).mp f
          rintro (z | z)
          · exact d z
          · omega
        · exact Nat.not_le.mp (fun z => f ((nI_leI (by omega) (by omega)).mpr z))
    have B_39 := zSd_any L_39
    have B_25 := zr_iload_n (X := X) (Y := Y) (u := 0) (v := 0) O dX11_rank_25 rfl (zr_aload_n O dX11_rank_26 rfl (zr_gI (ci := 10) (j := 10) O zc_10 (by decide) rfl tw_1197 dX11_rank_27 (zr_icge (tgt := 116) O dX11_rank_30 rfl B_116 (zr_iconst (x := 0) O dX11_rank_33 rfl (zr_istore O dX11_rank_34 (zr_iconst (x := 0) O dX11_rank_36 rfl (zr_istore O dX11_rank_37 (B_39))))))))
    refine zSd_weak B_25 (fun ls st h1 t => ?_)
    obtain ⟨n, z, y4, y5, rfl, hn, rfl, rfl, rfl, rfl, g1, g2, hb⟩ := t
    have e10 : (zsI h y 0 0).1 y 10 = nI (dN S) := hS0.1.1
    refine ⟨fun c => ?_, fun c => ?_⟩
    · rw [e10] at c
      have := (nI_leI (by omega) (by omega)).mp c
      have hn2 : n = dN S := by omega
      subst hn2
      refine ⟨(fq_0 y h).1, Or.inl ⟨g1, g2, (fq_0 y h).2, zri ?_⟩⟩
      rw [rnM, if_neg (first_none hb)]
    · rw [e10] at c
      have hn2 : n < dN S := Nat.not_le.mp (fun z => c ((nI_leI (by omega) (by omega)).mpr z))
      exact ⟨dN S - 0, n, 0, _, _, _, rfl, Nat.zero_le _, rfl, hn2, rfl, rfl, rfl, rfl, rfl, rfl, g1, g2, hb⟩
  have B_25 := zSd_any L_25
  have B_23 := zr_iconst (X := X) (Y := Y) (u := 0) (v := 0) (x := 0) O dX11_rank_23 rfl (zr_istore_n O dX11_rank_24 rfl (B_25))
  have B_21 := zr_iconst (X := X) (Y := Y) (u := 0) (v := 0) (x := 0) O dX11_rank_21 rfl (zr_ireturn O E (Nat.le_refl _) (Nat.le_refl _) dX11_rank_22)
  have B_0 := zr_aload_n (X := X) (Y := Y) (u := 0) (v := 0) O dX11_rank_0 rfl (zr_iconst (x := 0) O dX11_rank_1 rfl (zr_pI (ci := 10) (j := 0) O zc_10 (by decide) rfl rfl rfl tw_1187 dX11_rank_2 (zr_aload_n O dX11_rank_5 rfl (zr_iload_n O dX11_rank_6 rfl (zr_cH (zr_cV (ci := 10) (n := 1) O m_X11_isRing (bn_X11_isRing _ ⟨rfl, rfl⟩) vw_X11_isRing tw_1383 rc_X11_isRing (zrm hR rfl rfl) dX11_rank_7 (zr_ifeq (tgt := 21) O dX11_rank_10 rfl B_21 (zr_aload_n O dX11_rank_13 rfl (zr_iload_n O dX11_rank_14 rfl (zr_cH (zr_cV (ci := 10) (n := 1) O m_X11_isHeat (bn_X11_isHeat _ ⟨rfl, rfl⟩) vw_X11_isHeat tw_1515 rc_X11_isHeat (zrm hR rfl rfl) dX11_rank_15 (zr_ifne (tgt := 23) O dX11_rank_18 rfl B_23 (B_21)))))))))))))
  refine ⟨rfl, Nat.le_of_ble_eq_true rfl, _, B_0, ?_⟩
  refine ⟨(S, y, i), rfl, ⟨hS0, t0 h y⟩, fun d => ?_, fun d => ?_⟩
  · obtain ⟨g, e⟩ := ring_no d
    rw [e]
    exact ⟨(fq_rf 1 (fq_0 y h)).1, Or.inr (Or.inl ⟨g, (fq_rf 1 (fq_0 y h)).2, rfl⟩)⟩
  · obtain ⟨g, e⟩ := ring_ok d
    rw [e]
    refine ⟨(y, te), rfl, t0 h y, fun d => ?_, fun d => ?_⟩
    · obtain ⟨g2, e⟩ := heat_ok d
      rw [e]
      exact ⟨dN S - 0, 0, _, none, none, rfl, Nat.zero_le _, rfl, rfl, rfl, rfl, g, g2, fun j hj => absurd hj (Nat.not_lt_zero _)⟩
    · obtain ⟨g2, e⟩ := heat_no d
      rw [e]
      exact ⟨(fq_rf 2 (fq_0 y h)).1, Or.inr (Or.inr ⟨g, g2, (fq_rf 2 (fq_0 y h)).2, rfl⟩)⟩

