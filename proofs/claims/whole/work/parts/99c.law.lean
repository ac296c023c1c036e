/-! the law's cases, walked -/
set_option maxHeartbeats 4000000 in
set_option maxRecDepth 100000 in
theorem lc_feed {X : zX} {Y : zY} {b L u v i x : Nat} {xs : Nat → Int32} {kd : Nat × Nat} (hO : LO X Y b L xs u v i) (hnx : zSd X Y (u + 5) (v + 30) 1991 (LI x (kd, b) i)) : zSd X Y u v 184 (LI x (kd, b) i) := by
  obtain ⟨O, hst, S, hR, hi, hu, hv⟩ := hO
  have B_255 : zSd X Y u v 255 _ := zr_dead (X := X) (Y := Y) (u := u) (v := v) (pc := 255)
  have B_252 : zSd X Y u v 252 _ := zr_iceq (X := X) (Y := Y) (u := u) (v := v) (tgt := 1991) O dL_law_252 rfl (zSd_more hnx (by omega) (by omega)) B_255
  have B_218 : zSd X Y u v 218 _ := zr_aload_n O dL_law_218 rfl (zr_aload_n O dL_law_219 rfl (zr_iload O dL_law_220 (zr_iconst (x := nI 1) O dL_law_222 (by decide) (zr_iadd O dL_law_223 (zr_sl O S dL_law_224 (zr_aload_n O dL_law_225 rfl (zr_iload O dL_law_226 (zr_iconst (x := nI 2) O dL_law_228 (by decide) (zr_iadd O dL_law_229 (zr_sl O S dL_law_230 (zr_aload_n O dL_law_231 rfl (zr_iload O dL_law_232 (zr_iconst (x := nI 3) O dL_law_234 (by decide) (zr_iadd O dL_law_235 (zr_sl O S dL_law_236 (zr_aload_n O dL_law_237 rfl (zr_iload O dL_law_238 (zr_iconst (x := nI 4) O dL_law_240 (by decide) (zr_iadd O dL_law_241 (zr_sl O S dL_law_242 (zr_aload_n O dL_law_243 rfl (zr_iload O dL_law_244 (zr_iconst (x := nI 5) O dL_law_246 (by decide) (zr_iadd O dL_law_247 (zr_sl O S dL_law_248 (zr_cV (X := X) (Y := Y) (u := u) (v := v) (ci := 10) (n := 5) O m_X11_feed (bn_X11_feed _ ⟨rfl, rfl⟩) vw_X11_feed tv_1293 rc_X11_feed (zrLw hR rfl rfl (by omega) (by omega)) dL_law_249 B_252))))))))))))))))))))))))))
  have B_184 : zSd X Y u v 184 _ := zr_aload_n O dL_law_184 rfl (zr_aload_n O dL_law_185 rfl (zr_iload O dL_law_186 (zr_iconst (x := nI 1) O dL_law_188 (by decide) (zr_iadd O dL_law_189 (zr_sl O S dL_law_190 (zr_aload_n O dL_law_191 rfl (zr_iload O dL_law_192 (zr_iconst (x := nI 2) O dL_law_194 (by decide) (zr_iadd O dL_law_195 (zr_sl O S dL_law_196 (zr_aload_n O dL_law_197 rfl (zr_iload O dL_law_198 (zr_iconst (x := nI 3) O dL_law_200 (by decide) (zr_iadd O dL_law_201 (zr_sl O S dL_law_202 (zr_aload_n O dL_law_203 rfl (zr_iload O dL_law_204 (zr_iconst (x := nI 4) O dL_law_206 (by decide) (zr_iadd O dL_law_207 (zr_sl O S dL_law_208 (zr_aload_n O dL_law_209 rfl (zr_iload O dL_law_210 (zr_iconst (x := nI 5) O dL_law_212 (by decide) (zr_iadd O dL_law_213 (zr_sl O S dL_law_214 (zr_cV (X := X) (Y := Y) (u := u) (v := v) (ci := 9) (n := 5) O m_X10_feed (bn_X10_feed _ ⟨rfl, rfl⟩) vw_X10_feed tv_333 rc_X10_feed (zrLw hR rfl rfl (by omega) (by omega)) dL_law_215 B_218))))))))))))))))))))))))))
  refine zSd_weak B_184 ?_
  rintro ls st h ⟨w5, w6, w7, rfl, rfl, ⟨Q, Hs, c, p, k0, π⟩, tl, hJ⟩
  have C := cs_feed (v1 := xs (6 * i + 1)) (v2 := xs (6 * i + 2)) (v3 := xs (6 * i + 3)) (v4 := xs (6 * i + 4)) (v5 := xs (6 * i + 5)) hJ
  refine ⟨rfl, 6 * i + 1, si_ i 1, by omega, rfl, 6 * i + 2, si_ i 2, by omega, rfl, 6 * i + 3, si_ i 3, by omega, rfl, 6 * i + 4, si_ i 4, by omega, rfl, 6 * i + 5, si_ i 5, by omega, (x, tl, xs (6 * i + 1), xs (6 * i + 2), xs (6 * i + 3), xs (6 * i + 4), xs (6 * i + 5)), rfl, C.1, fun r h1 hq => ?_⟩
  obtain ⟨pm, w, rfl, ⟨bb, rfl⟩, hm⟩ := C.2 r h1 hq
  refine ⟨rfl, 6 * i + 1, si_ i 1, by omega, rfl, 6 * i + 2, si_ i 2, by omega, rfl, 6 * i + 3, si_ i 3, by omega, rfl, 6 * i + 4, si_ i 4, by omega, rfl, 6 * i + 5, si_ i 5, by omega, (x + 229, tl, xs (6 * i + 1), xs (6 * i + 2), xs (6 * i + 3), xs (6 * i + 4), xs (6 * i + 5)), rfl, pm, fun r2 h2 hq2 => ?_⟩
  obtain ⟨rfl, hJ2⟩ := hm r2 h2 hq2
  exact ⟨fun _ => ⟨_, _, _, rfl, rfl, hJ2⟩, fun q => absurd rfl q⟩
set_option maxHeartbeats 4000000 in
set_option maxRecDepth 100000 in
theorem lc_fault {X : zX} {Y : zY} {b L u v i x : Nat} {xs : Nat → Int32} {kd : Nat × Nat} (hO : LO X Y b L xs u v i) (hnx : zSd X Y (u + 5) (v + 30) 1991 (LI x (kd, b) i)) : zSd X Y u v 313 (LI x (kd, b) i) := by
  obtain ⟨O, hst, S, hR, hi, hu, hv⟩ := hO
  have B_324 : zSd X Y u v 324 _ := zr_dead (X := X) (Y := Y) (u := u) (v := v) (pc := 324)
  have B_321 : zSd X Y u v 321 _ := zr_iceq (X := X) (Y := Y) (u := u) (v := v) (tgt := 1991) O dL_law_321 rfl (zSd_more hnx (by omega) (by omega)) B_324
  have B_317 : zSd X Y u v 317 _ := zr_aload_n O dL_law_317 rfl (zr_cV (X := X) (Y := Y) (u := u) (v := v) (ci := 10) (n := 0) O m_X11_fault (bn_X11_fault _ ⟨rfl, rfl⟩) vw_X11_fault tv_1363 rc_X11_fault (zrLw hR rfl rfl (by omega) (by omega)) dL_law_318 B_321)
  have B_313 : zSd X Y u v 313 _ := zr_aload_n O dL_law_313 rfl (zr_cI (zr_cV (X := X) (Y := Y) (u := u) (v := v) (ci := 9) (n := 0) O m_X10_fault (bn_X10_fault _ ⟨rfl, rfl⟩) vw_X10_fault tv_341 rc_X10_fault (zrLw hR rfl rfl (by omega) (by omega)) dL_law_314 B_317))
  refine zSd_weak B_313 ?_
  rintro ls st h ⟨w5, w6, w7, rfl, rfl, ⟨Q, Hs, c, p, k0, π⟩, tl, hJ⟩
  have C := cs_fault hJ
  obtain ⟨pm, w, e, ⟨bb, rfl⟩, hm⟩ := C.2 _ h ⟨rfl, rfl⟩
  cases e
  refine ⟨(x), rfl, C.1, (x + 229), rfl, pm, fun r2 h2 hq2 => ?_⟩
  obtain ⟨rfl, hJ2⟩ := hm r2 h2 hq2
  exact ⟨fun _ => ⟨_, _, _, rfl, rfl, hJ2⟩, fun q => absurd rfl q⟩
set_option maxHeartbeats 4000000 in
set_option maxRecDepth 100000 in
theorem lc_ring {X : zX} {Y : zY} {b L u v i x : Nat} {xs : Nat → Int32} {kd : Nat × Nat} (hO : LO X Y b L xs u v i) (hnx : zSd X Y (u + 5) (v + 30) 1991 (LI x (kd, b) i)) : zSd X Y u v 767 (LI x (kd, b) i) := by
  obtain ⟨O, hst, S, hR, hi, hu, hv⟩ := hO
  have B_832 : zSd X Y (u + 5) (v + 30) 832 _ := zr_goto (X := X) (Y := Y) (u := u + 5) (v := v + 30) (tgt := 1991) O dL_law_832 rfl hnx
  have B_830 : zSd X Y (u + 5) (v + 30) 830 _ := zr_dead (X := X) (Y := Y) (u := u + 5) (v := v + 30) (pc := 830)
  have B_820 : zSd X Y (u + 5) (v + 30) 820 _ := zr_aload_n O dL_law_820 rfl (zr_iconst (x := nI 0) O dL_law_821 (by decide) (zr_lald O dL_law_822 (zr_iload O dL_law_823 (zr_i2l O dL_law_825 (zr_lcmp O dL_law_826 (zr_ifeq (X := X) (Y := Y) (u := u + 5) (v := v + 30) (tgt := 832) O dL_law_827 rfl B_832 B_830))))))
  have B_815 : zSd X Y (u + 5) (v + 30) 815 _ := zr_iload O dL_law_815 (zr_ifne (X := X) (Y := Y) (u := u + 5) (v := v + 30) (tgt := 832) O dL_law_817 rfl B_832 B_820)
  have B_813 : zSd X Y (u + 5) (v + 30) 813 _ := zr_dead (X := X) (Y := Y) (u := u + 5) (v := v + 30) (pc := 813)
  have B_808 : zSd X Y (u + 5) (v + 30) 808 _ := zr_iload O dL_law_808 (zr_iceq (X := X) (Y := Y) (u := u + 5) (v := v + 30) (tgt := 815) O dL_law_810 rfl B_815 B_813)
  have B_802 : zSd X Y (u + 5) (v + 30) 802 _ := zr_istore O dL_law_802 (zr_aload_n O dL_law_804 rfl (zr_cI (zr_cV (X := X) (Y := Y) (u := u + 5) (v := v + 30) (ci := 10) (n := 0) O m_X11_thrown (bn_X11_thrown _ ⟨rfl, rfl⟩) vw_X11_thrown tv_1174 rc_X11_thrown (zrLw hR rfl rfl (by omega) (by omega)) dL_law_805 B_808)))
  have B_784 : zSd X Y (u + 5) (v + 30) 784 _ := zr_istore O dL_law_784 (zr_aload_n O dL_law_786 rfl (zr_aload_n O dL_law_787 rfl (zr_iload O dL_law_788 (zr_iconst (x := nI 1) O dL_law_790 (by decide) (zr_iadd O dL_law_791 (zr_sl O S dL_law_792 (zr_aload_n O dL_law_793 rfl (zr_iload O dL_law_794 (zr_iconst (x := nI 2) O dL_law_796 (by decide) (zr_iadd O dL_law_797 (zr_sl O S dL_law_798 (zr_cV (X := X) (Y := Y) (u := u + 5) (v := v + 30) (ci := 10) (n := 2) O m_X11_ring (bn_X11_ring _ ⟨rfl, rfl⟩) vw_X11_ring tv_1503 rc_X11_ring (zrLw hR rfl rfl (by omega) (by omega)) dL_law_799 B_802))))))))))))
  have B_767 : zSd X Y u v 767 _ := zr_aload_n O dL_law_767 rfl (zr_aload_n O dL_law_768 rfl (zr_iload O dL_law_769 (zr_iconst (x := nI 1) O dL_law_771 (by decide) (zr_iadd O dL_law_772 (zr_sl O S dL_law_773 (zr_aload_n O dL_law_774 rfl (zr_iload O dL_law_775 (zr_iconst (x := nI 2) O dL_law_777 (by decide) (zr_iadd O dL_law_778 (zr_sl O S dL_law_779 (zr_aload_n O dL_law_780 rfl (zr_cW (X := X) (Y := Y) (u := u) (v := v) (u' := u + 5) (v' := v + 30) (n := 4) O hst w_ring ⟨tv_884, tv_0, tv_883, by decide, by decide, by decide +kernel⟩ tv_882 (zrLw hR rfl rfl (by omega) (by omega)) (by show u + 2 ≤ u + 5; omega) (by show v + 12 ≤ v + 30; omega) dL_law_781 B_784))))))))))))
  refine zSd_weak B_767 ?_
  rintro ls st h ⟨w5, w6, w7, rfl, rfl, ⟨Q, Hs, c, p, k0, π⟩, tl, hJ⟩
  have C := cs_ring (i := xs (6 * i + 1)) (w := xs (6 * i + 2)) hJ
  refine ⟨rfl, 6 * i + 1, si_ i 1, by omega, rfl, 6 * i + 2, si_ i 2, by omega, ((Q, x, xs (6 * i + 1), xs (6 * i + 2)), x + 247), rfl, C.1, fun r h1 hq => ?_⟩
  obtain ⟨k, rfl, pm, hm⟩ := C.2 r h1 hq
  refine ⟨rfl, 6 * i + 1, si_ i 1, by omega, rfl, 6 * i + 2, si_ i 2, by omega, (Q, x + 229, xs (6 * i + 1), xs (6 * i + 2)), rfl, pm, fun r2 h2 hq2 => ?_⟩
  obtain ⟨w2, rfl, ⟨bb, rfl⟩, e0, ek, hJ2⟩ := hm r2 h2 hq2
  refine ⟨x + 229, rfl, trivial, fun _ => ?_, fun z => absurd e0 z⟩
  refine ⟨fun _ => ⟨_, _, _, rfl, rfl, hJ2⟩, fun z => ⟨0, rfl, by omega, ?_⟩⟩
  exact ⟨fun _ => ⟨_, _, _, rfl, rfl, hJ2⟩, fun q => absurd (lg_eq (ek z)) q⟩

