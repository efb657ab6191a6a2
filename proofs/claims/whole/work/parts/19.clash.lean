set_option maxHeartbeats 4000000 in
set_option maxRecDepth 100000 in
theorem L_fc {p : Program} {l : Launch} {e : Env} {s : State} {m : MethodId} {args : Array Value} {below : List Frame} {meth : Method} {c : Code} {Q : State → Prop} {A : Nat → Prop} (hx : p.tables.exec = Jvm.exec) (hb : c.code = b_SettingSearch_fewestClashing) (hml : c.maxLocals = 7) (hown : s.vm.findClass R_SettingSearch = some m.cls) (hts : ∀ w ∈ lw_g, w.before args s = true) (hA : ∀ q, s.heap.size ≤ q → A q) {dC : Nat → ClassId} {dI : Nat → Nat → Nat} (cI : ClassId) (cZ : ClassId) (cQ : ClassId) (a0 : Nat) (aM : Nat) (aR : Nat) (aW : Nat) (aF : Nat) (aS : Nat) (aKR : Nat) (aRp : Nat) (aRk : Nat) (aRa : Nat) (aRb : Nat) (aRl : Nat) (pu : Int32) (fPo : Nat → Int32) (fKi : Nat → Int32) (fAb : Nat → Int32) (fBe : Nat → Int32) (fM : Nat → Int32) (aA : Nat) (aK : Nat) (aG : Nat) (aO : Nat) (fd : Int64) (ct : Int32) (fK : Nat → Int32) (fG : Nat → Int32) (fO : Nat → Int32) (fKR : Nat → Int32) (np : Nat) (tl : Int32) (rw1 : Int32) (kr : Nat → Int32) (hpu : pu = nI np) (hnp : np ≤ 4) (hpk : q_okPK fPo fKi np) (htl : tl = q_told pu fM 5) (hrw : rw1 = nI (q_lk fK (q_kept fG fO fPo fKi fAb fBe fM np) fKR 64).2) (hkr : kr = (q_lk fK (q_kept fG fO fPo fKi fAb fBe fM np) fKR 64).1) (hnr : (q_lk fK (q_kept fG fO fPo fKi fAb fBe fM np) fKR 64).2 ≤ 64) (hKN : g_K dC dI [(cI, .int), (cZ, .boolean), (cQ, (.object "SettingSearch$Answers"))] s)
    (kx_89 : ∀ (i : Nat) (xi : Int32) (fw : Int32) (fo : Int32) (_ : i + 1 ≤ 512) (_ : xi = nI (i + 1)) (_ : fw = (q_fc (q_told pu fM 5) (fun z => q_nk (q_lk fK (q_kept fG fO fPo fKi fAb fBe fM np) fKR 64).1 z (q_lk fK (q_kept fG fO fPo fKi fAb fBe fM np) fKR 64).2) i).1) (_ : fo = (q_fc (q_told pu fM 5) (fun z => q_nk (q_lk fK (q_kept fG fO fPo fKi fAb fBe fM np) fKR 64).1 z (q_lk fK (q_kept fG fO fPo fKi fAb fBe fM np) fKR 64).2) i).2) (_ : i + 1 = 512) (H : Heap) (locs : List Loc), va_P (dC, dI) vw_cls [(a0, .inr (0, [.ref aM, .ref aR, .ref aW, .ref aF, .ref aS, .ref aKR])), (aR, .inr (5, [.int pu, .ref aRp, .ref aRk, .ref aRa, .ref aRb, .ref aRl])), (aRp, .inl (cI, 4, .inl fPo)), (aRk, .inl (cI, 4, .inl fKi)), (aRa, .inl (cI, 4, .inl fAb)), (aRb, .inl (cI, 4, .inl fBe)), (aRl, .inl (cI, 5, .inl fM)), (aA, .inr (2, [.long fd, .int ct, .ref aK, .ref aG, .ref aO])), (aK, .inl (cZ, 64, .inl fK)), (aG, .inl (cI, 576, .inl fG)), (aO, .inl (cI, 320, .inl fO)), (aKR, .inl (cI, 64, .inl kr))] H → va_D A [(a0, .inr (0, [.ref aM, .ref aR, .ref aW, .ref aF, .ref aS, .ref aKR])), (aR, .inr (5, [.int pu, .ref aRp, .ref aRk, .ref aRa, .ref aRb, .ref aRl])), (aRp, .inl (cI, 4, .inl fPo)), (aRk, .inl (cI, 4, .inl fKi)), (aRa, .inl (cI, 4, .inl fAb)), (aRb, .inl (cI, 4, .inl fBe)), (aRl, .inl (cI, 5, .inl fM)), (aA, .inr (2, [.long fd, .int ct, .ref aK, .ref aG, .ref aO])), (aK, .inl (cZ, 64, .inl fK)), (aG, .inl (cI, 576, .inl fG)), (aO, .inl (cI, 320, .inl fO)), (aKR, .inl (cI, 64, .inl kr))] → va_S A s.heap H locs → ∀ (ls : Array Slot), lv_has ls 7 [(0, .ref a0), (1, .ref aA), (2, .int tl), (3, .int rw1), (4, .int fw), (5, .int fo), (6, .int xi)] → W p l e ({ frames := 5, cells := 0, slots := 0, locals := 117 } : Room) s m args below meth c H locs 0 0 Q (F0 m 89 ls [])) :
    ∀ (n : Nat) (i : Nat) (xi : Int32) (fw : Int32) (fo : Int32) (_ : i + 1 ≤ 512) (_ : xi = nI (i + 1)) (_ : fw = (q_fc (q_told pu fM 5) (fun z => q_nk (q_lk fK (q_kept fG fO fPo fKi fAb fBe fM np) fKR 64).1 z (q_lk fK (q_kept fG fO fPo fKi fAb fBe fM np) fKR 64).2) i).1) (_ : fo = (q_fc (q_told pu fM 5) (fun z => q_nk (q_lk fK (q_kept fG fO fPo fKi fAb fBe fM np) fKR 64).1 z (q_lk fK (q_kept fG fO fPo fKi fAb fBe fM np) fKR 64).2) i).2) (_ : 512 - i < n) (H : Heap) (locs : List Loc), va_P (dC, dI) vw_cls [(a0, .inr (0, [.ref aM, .ref aR, .ref aW, .ref aF, .ref aS, .ref aKR])), (aR, .inr (5, [.int pu, .ref aRp, .ref aRk, .ref aRa, .ref aRb, .ref aRl])), (aRp, .inl (cI, 4, .inl fPo)), (aRk, .inl (cI, 4, .inl fKi)), (aRa, .inl (cI, 4, .inl fAb)), (aRb, .inl (cI, 4, .inl fBe)), (aRl, .inl (cI, 5, .inl fM)), (aA, .inr (2, [.long fd, .int ct, .ref aK, .ref aG, .ref aO])), (aK, .inl (cZ, 64, .inl fK)), (aG, .inl (cI, 576, .inl fG)), (aO, .inl (cI, 320, .inl fO)), (aKR, .inl (cI, 64, .inl kr))] H → va_D A [(a0, .inr (0, [.ref aM, .ref aR, .ref aW, .ref aF, .ref aS, .ref aKR])), (aR, .inr (5, [.int pu, .ref aRp, .ref aRk, .ref aRa, .ref aRb, .ref aRl])), (aRp, .inl (cI, 4, .inl fPo)), (aRk, .inl (cI, 4, .inl fKi)), (aRa, .inl (cI, 4, .inl fAb)), (aRb, .inl (cI, 4, .inl fBe)), (aRl, .inl (cI, 5, .inl fM)), (aA, .inr (2, [.long fd, .int ct, .ref aK, .ref aG, .ref aO])), (aK, .inl (cZ, 64, .inl fK)), (aG, .inl (cI, 576, .inl fG)), (aO, .inl (cI, 320, .inl fO)), (aKR, .inl (cI, 64, .inl kr))] → va_S A s.heap H locs → ∀ (ls : Array Slot), lv_has ls 7 [(0, .ref a0), (1, .ref aA), (2, .int tl), (3, .int rw1), (4, .int fw), (5, .int fo), (6, .int xi)] → W p l e ({ frames := 5, cells := 0, slots := 0, locals := 117 } : Room) s m args below meth c H locs 0 0 Q (F0 m 35 ls []) := by
  obtain ⟨hK, hN⟩ := id hKN
  intro n
  induction n with
  | zero =>
    intro i xi fw fo hi exi efw efo hm
    exact absurd hm (Nat.not_lt_zero _)
  | succ n ih =>
    intro i xi fw fo hi exi efw efo hm H locs hP hD hS ls hl
    refine lv_iload hx hb d_SettingSearch_fewestClashing_35 (lv_at hl 6 rfl) ?_
    refine lv_sipush (v := 512) hx hb d_SettingSearch_fewestClashing_37 (by decide) ?_
    refine lv_icmp_ge (tgt := 89) hx hb d_SettingSearch_fewestClashing_40 (by decide) (fun c_1 => ?_) (fun c_1 => ?_)
    · skip
      have hendi : i + 1 = 512 := lp_ge (N := 512) c_1 exi rfl hi (by decide)
      exact kx_89 i xi fw fo hi exi efw efo hendi H locs (hP.sub [0, 1, 2, 3, 4, 5, 6, 7, 8, 9, 10, 11] rfl) (hD.sub [0, 1, 2, 3, 4, 5, 6, 7, 8, 9, 10, 11] (by decide) rfl) hS ls (lv_sub hl [0, 1, 2, 3, 4, 5, 6] rfl)
    · skip
      have hlti : i + 1 < 512 := lp_lt (N := 512) c_1 exi rfl (by omega)
      refine lv_iload hx hb d_SettingSearch_fewestClashing_43 (lv_at hl 6 rfl) ?_
      refine lv_iload_n hx hb d_SettingSearch_fewestClashing_45 rfl (lv_at hl 2 rfl) ?_
      refine lv_iand hx hb d_SettingSearch_fewestClashing_46 ?_
      refine lv_topi (fun v_2 ev_2 => ?_)
      refine lv_iload hx hb d_SettingSearch_fewestClashing_47 (lv_at hl 6 rfl) ?_
      refine lv_icmp_ne (tgt := 83) hx hb d_SettingSearch_fewestClashing_49 (by decide) (fun c_3 => ?_) (fun c_3 => ?_)
      · skip
        have c1 : ¬ nI (i + 1) &&& (q_told pu fM 5) = nI (i + 1) := by rw [← exi, ← htl, ← ev_2]; exact c_3
        obtain ⟨v_4, ev_4⟩ : ∃ y : Int32, y = xi + 1 := ⟨_, rfl⟩
        refine lv_iinc (v := v_4) (lv' := [(6, .int v_4), (0, .ref a0), (1, .ref aA), (2, .int tl), (3, .int rw1), (4, .int fw), (5, .int fo)]) hx hb d_SettingSearch_fewestClashing_83 hl (k := 6) rfl (by rw [ev_4]; rfl) (by decide) rfl (fun ls hl => ?_)
        refine lv_goto (tgt := 35) hx hb d_SettingSearch_fewestClashing_86 (by decide) ?_
        exact ih (i + 1) v_4 fw fo hlti (by rw [ev_4, exi]; exact nI_1 (i + 1)) (by rw [q_fc, if_neg (fun z => by first | exact c1 z.1 | exact z.2.1 c2 | exact c3 z.2.2)]; exact efw) (by rw [q_fc, if_neg (fun z => by first | exact c1 z.1 | exact z.2.1 c2 | exact c3 z.2.2)]; exact efo) (by omega) H locs (hP.sub [0, 1, 2, 3, 4, 5, 6, 7, 8, 9, 10, 11] rfl) (hD.sub [0, 1, 2, 3, 4, 5, 6, 7, 8, 9, 10, 11] (by decide) rfl) hS ls (lv_sub hl [1, 2, 3, 4, 5, 6, 0] rfl)
      · skip
        have c1 : nI (i + 1) &&& (q_told pu fM 5) = nI (i + 1) := by rw [← exi, ← htl, ← ev_2]; exact c_3
        refine lv_iload hx hb d_SettingSearch_fewestClashing_52 (lv_at hl 6 rfl) ?_
        have hPc := hP.sub (ws' := []) [] rfl
        have hDc := hD.sub (ws' := []) [] (by decide) rfl
        have hFc := va_free (wc := []) hD hS hA [] rfl
        refine va_calli (va_runS (As := [.int xi]) (rest := []) ⟨hx, hb, hml, hown, hts⟩ (k_bc l dC dI H.size cI cZ cQ xi ) ⟨(callB_of 1 hts (ga_all tw_404) rfl rfl rfl (hts _ tw_31) (hts _ tw_402) (by decide +kernel) ⟨Nat.le_of_ble_eq_true rfl, Nat.le_of_ble_eq_true rfl⟩), hts _ tw_403⟩ ⟨fun a U g mk q => by obtain ⟨q0, q1, qP, qK, qD⟩ := q; exact ⟨q0, q1, qP, g_K.same (u := U) (U := U.calling g mk a) rfl qK, qD⟩, fun U hU hW => ⟨rfl, by rw [hU], by rw [hU]; exact hPc, g_K.warm hW hKN, hDc.weaken (fun _ _ _ _ => trivial)⟩⟩ rfl rfl hl.1 rfl (lv_room (Nat.le_of_ble_eq_true rfl)) d_SettingSearch_fewestClashing_54 ⟨Nat.le_of_ble_eq_true rfl, Nat.le_of_ble_eq_true rfl⟩) hS (fun q _ h => hFc q h) hFc (fun r_5 u t H1 locs htt hvm hw_6 hBB hzz hkk hS => ?_)
        have hw_6 : r_5 = q_bc xi := hw_6
        obtain ⟨hPP, hDD⟩ := hBB
        rw [htt] at hPP
        have hPP : va_P (dC, dI) vw_cls [] H1 := hPP
        have hDD : va_D (va_A [] H.size) [] := hDD
        obtain ⟨hP, hD⟩ := va_join (wr := [(a0, .inr (0, [.ref aM, .ref aR, .ref aW, .ref aF, .ref aS, .ref aKR])), (aR, .inr (5, [.int pu, .ref aRp, .ref aRk, .ref aRa, .ref aRb, .ref aRl])), (aRp, .inl (cI, 4, .inl fPo)), (aRk, .inl (cI, 4, .inl fKi)), (aRa, .inl (cI, 4, .inl fAb)), (aRb, .inl (cI, 4, .inl fBe)), (aRl, .inl (cI, 5, .inl fM)), (aA, .inr (2, [.long fd, .int ct, .ref aK, .ref aG, .ref aO])), (aK, .inl (cZ, 64, .inl fK)), (aG, .inl (cI, 576, .inl fG)), (aO, .inl (cI, 320, .inl fO)), (aKR, .inl (cI, 64, .inl kr))]) (w1 := []) hP hD [] [0, 1, 2, 3, 4, 5, 6, 7, 8, 9, 10, 11] rfl rfl (by decide) (by decide) hkk hFc hPP hDD
        generalize H1 = H at hP hS ⊢
        have hP : va_P (dC, dI) vw_cls [(a0, .inr (0, [.ref aM, .ref aR, .ref aW, .ref aF, .ref aS, .ref aKR])), (aR, .inr (5, [.int pu, .ref aRp, .ref aRk, .ref aRa, .ref aRb, .ref aRl])), (aRp, .inl (cI, 4, .inl fPo)), (aRk, .inl (cI, 4, .inl fKi)), (aRa, .inl (cI, 4, .inl fAb)), (aRb, .inl (cI, 4, .inl fBe)), (aRl, .inl (cI, 5, .inl fM)), (aA, .inr (2, [.long fd, .int ct, .ref aK, .ref aG, .ref aO])), (aK, .inl (cZ, 64, .inl fK)), (aG, .inl (cI, 576, .inl fG)), (aO, .inl (cI, 320, .inl fO)), (aKR, .inl (cI, 64, .inl kr))] H := hP
        have hD : va_D A [(a0, .inr (0, [.ref aM, .ref aR, .ref aW, .ref aF, .ref aS, .ref aKR])), (aR, .inr (5, [.int pu, .ref aRp, .ref aRk, .ref aRa, .ref aRb, .ref aRl])), (aRp, .inl (cI, 4, .inl fPo)), (aRk, .inl (cI, 4, .inl fKi)), (aRa, .inl (cI, 4, .inl fAb)), (aRb, .inl (cI, 4, .inl fBe)), (aRl, .inl (cI, 5, .inl fM)), (aA, .inr (2, [.long fd, .int ct, .ref aK, .ref aG, .ref aO])), (aK, .inl (cZ, 64, .inl fK)), (aG, .inl (cI, 576, .inl fG)), (aO, .inl (cI, 320, .inl fO)), (aKR, .inl (cI, 64, .inl kr))] := hD
        refine lv_iload hx hb d_SettingSearch_fewestClashing_57 (lv_at hl 4 rfl) ?_
        refine lv_icmp_ge (tgt := 83) hx hb d_SettingSearch_fewestClashing_59 (by decide) (fun c_7 => ?_) (fun c_7 => ?_)
        · skip
          have c2 : (q_fc (q_told pu fM 5) (fun z => q_nk (q_lk fK (q_kept fG fO fPo fKi fAb fBe fM np) fKR 64).1 z (q_lk fK (q_kept fG fO fPo fKi fAb fBe fM np) fKR 64).2) i).1 ≤ q_bc (nI (i + 1)) := by rw [← exi, ← hw_6, ← efw]; exact c_7
          obtain ⟨v_8, ev_8⟩ : ∃ y : Int32, y = xi + 1 := ⟨_, rfl⟩
          refine lv_iinc (v := v_8) (lv' := [(6, .int v_8), (0, .ref a0), (1, .ref aA), (2, .int tl), (3, .int rw1), (4, .int fw), (5, .int fo)]) hx hb d_SettingSearch_fewestClashing_83 hl (k := 6) rfl (by rw [ev_8]; rfl) (by decide) rfl (fun ls hl => ?_)
          refine lv_goto (tgt := 35) hx hb d_SettingSearch_fewestClashing_86 (by decide) ?_
          exact ih (i + 1) v_8 fw fo hlti (by rw [ev_8, exi]; exact nI_1 (i + 1)) (by rw [q_fc, if_neg (fun z => by first | exact c1 z.1 | exact z.2.1 c2 | exact c3 z.2.2)]; exact efw) (by rw [q_fc, if_neg (fun z => by first | exact c1 z.1 | exact z.2.1 c2 | exact c3 z.2.2)]; exact efo) (by omega) H locs (hP.sub [0, 1, 2, 3, 4, 5, 6, 7, 8, 9, 10, 11] rfl) (hD.sub [0, 1, 2, 3, 4, 5, 6, 7, 8, 9, 10, 11] (by decide) rfl) hS ls (lv_sub hl [1, 2, 3, 4, 5, 6, 0] rfl)
        · skip
          have c2 : ¬ (q_fc (q_told pu fM 5) (fun z => q_nk (q_lk fK (q_kept fG fO fPo fKi fAb fBe fM np) fKR 64).1 z (q_lk fK (q_kept fG fO fPo fKi fAb fBe fM np) fKR 64).2) i).1 ≤ q_bc (nI (i + 1)) := by rw [← exi, ← hw_6, ← efw]; exact c_7
          refine lv_aload_n hx hb d_SettingSearch_fewestClashing_62 rfl (lv_at hl 0 rfl) ?_
          refine lv_iload hx hb d_SettingSearch_fewestClashing_63 (lv_at hl 6 rfl) ?_
          refine lv_iload_n hx hb d_SettingSearch_fewestClashing_65 rfl (lv_at hl 3 rfl) ?_
          have hPc := hP.sub (ws' := [(a0, .inr (0, [.ref aM, .ref aR, .ref aW, .ref aF, .ref aS, .ref aKR])), (aKR, .inl (cI, 64, .inl kr))]) [0, 11] rfl
          have hDc := hD.sub (ws' := [(a0, .inr (0, [.ref aM, .ref aR, .ref aW, .ref aF, .ref aS, .ref aKR])), (aKR, .inl (cI, 64, .inl kr))]) [0, 11] (by decide) rfl
          have hFc := va_free (wc := [(a0, .inr (0, [.ref aM, .ref aR, .ref aW, .ref aF, .ref aS, .ref aKR])), (aKR, .inl (cI, 64, .inl kr))]) hD hS hA [0, 11] rfl
          refine va_calli (va_runV (As := [.int xi, .int rw1]) (rest := []) ⟨hx, hb, hml, hown, hts⟩ (k_nk l dC dI H.size cI cZ cQ a0 aM aR aW aF aS aKR kr xi rw1 ((q_lk fK (q_kept fG fO fPo fKi fAb fBe fM np) fKR 64).2) hrw hnr) ⟨(callB_of 2 hts (ga_all tw_401) rfl rfl rfl (hts _ tw_22) (hts _ tw_398) (by decide +kernel) ⟨Nat.le_of_ble_eq_true rfl, Nat.le_of_ble_eq_true rfl⟩), hts _ tw_400, hts _ tw_7⟩ ⟨fun a U g mk q => by obtain ⟨q0, q1, qP, qK, qD⟩ := q; exact ⟨q0, q1, qP, g_K.same (u := U) (U := U.calling g mk a) rfl qK, qD⟩, va_recv hK hPc (ci := 0) (q0 := 0) rfl rfl, fun U hU hW => ⟨rfl, by rw [hU], by rw [hU]; exact hPc, g_K.warm hW hKN, hDc.weaken (fun _ _ _ _ => trivial)⟩⟩ rfl rfl hl.1 rfl (lv_room (Nat.le_of_ble_eq_true rfl)) d_SettingSearch_fewestClashing_66 ⟨Nat.le_of_ble_eq_true rfl, Nat.le_of_ble_eq_true rfl⟩) hS (fun q _ h => hFc q h) hFc (fun r_9 u t H1 locs htt hvm hw_10 hBB hzz hkk hS => ?_)
          have hw_10 : r_9 = if q_nk kr xi ((q_lk fK (q_kept fG fO fPo fKi fAb fBe fM np) fKR 64).2) = true then 1 else 0 := hw_10
          obtain ⟨hPP, hDD⟩ := hBB
          rw [htt] at hPP
          have hPP : va_P (dC, dI) vw_cls [(a0, .inr (0, [.ref aM, .ref aR, .ref aW, .ref aF, .ref aS, .ref aKR])), (aKR, .inl (cI, 64, .inl kr))] H1 := hPP
          have hDD : va_D (va_A [(a0, .inr (0, [.ref aM, .ref aR, .ref aW, .ref aF, .ref aS, .ref aKR])), (aKR, .inl (cI, 64, .inl kr))] H.size) [(a0, .inr (0, [.ref aM, .ref aR, .ref aW, .ref aF, .ref aS, .ref aKR])), (aKR, .inl (cI, 64, .inl kr))] := hDD
          obtain ⟨hP, hD⟩ := va_join (wr := [(aR, .inr (5, [.int pu, .ref aRp, .ref aRk, .ref aRa, .ref aRb, .ref aRl])), (aRp, .inl (cI, 4, .inl fPo)), (aRk, .inl (cI, 4, .inl fKi)), (aRa, .inl (cI, 4, .inl fAb)), (aRb, .inl (cI, 4, .inl fBe)), (aRl, .inl (cI, 5, .inl fM)), (aA, .inr (2, [.long fd, .int ct, .ref aK, .ref aG, .ref aO])), (aK, .inl (cZ, 64, .inl fK)), (aG, .inl (cI, 576, .inl fG)), (aO, .inl (cI, 320, .inl fO))]) (w1 := [(a0, .inr (0, [.ref aM, .ref aR, .ref aW, .ref aF, .ref aS, .ref aKR])), (aKR, .inl (cI, 64, .inl kr))]) hP hD [0, 11] [1, 2, 3, 4, 5, 6, 7, 8, 9, 10] rfl rfl (by decide) (by decide) hkk hFc hPP hDD
          generalize H1 = H at hP hS ⊢
          have hP : va_P (dC, dI) vw_cls [(aR, .inr (5, [.int pu, .ref aRp, .ref aRk, .ref aRa, .ref aRb, .ref aRl])), (aRp, .inl (cI, 4, .inl fPo)), (aRk, .inl (cI, 4, .inl fKi)), (aRa, .inl (cI, 4, .inl fAb)), (aRb, .inl (cI, 4, .inl fBe)), (aRl, .inl (cI, 5, .inl fM)), (aA, .inr (2, [.long fd, .int ct, .ref aK, .ref aG, .ref aO])), (aK, .inl (cZ, 64, .inl fK)), (aG, .inl (cI, 576, .inl fG)), (aO, .inl (cI, 320, .inl fO)), (a0, .inr (0, [.ref aM, .ref aR, .ref aW, .ref aF, .ref aS, .ref aKR])), (aKR, .inl (cI, 64, .inl kr))] H := hP
          have hD : va_D A [(aR, .inr (5, [.int pu, .ref aRp, .ref aRk, .ref aRa, .ref aRb, .ref aRl])), (aRp, .inl (cI, 4, .inl fPo)), (aRk, .inl (cI, 4, .inl fKi)), (aRa, .inl (cI, 4, .inl fAb)), (aRb, .inl (cI, 4, .inl fBe)), (aRl, .inl (cI, 5, .inl fM)), (aA, .inr (2, [.long fd, .int ct, .ref aK, .ref aG, .ref aO])), (aK, .inl (cZ, 64, .inl fK)), (aG, .inl (cI, 576, .inl fG)), (aO, .inl (cI, 320, .inl fO)), (a0, .inr (0, [.ref aM, .ref aR, .ref aW, .ref aF, .ref aS, .ref aKR])), (aKR, .inl (cI, 64, .inl kr))] := hD
          refine lv_if_eq (tgt := 83) hx hb d_SettingSearch_fewestClashing_69 (by decide) (fun c_11 => ?_) (fun c_11 => ?_)
          · skip
            have c3 : ¬ q_nk (q_lk fK (q_kept fG fO fPo fKi fAb fBe fM np) fKR 64).1 (nI (i + 1)) (q_lk fK (q_kept fG fO fPo fKi fAb fBe fM np) fKR 64).2 = true := by
              intro z
              have q := c_11
              rw [hw_10, hkr, exi, if_pos z] at q
              exact absurd q (by decide)
            obtain ⟨v_12, ev_12⟩ : ∃ y : Int32, y = xi + 1 := ⟨_, rfl⟩
            refine lv_iinc (v := v_12) (lv' := [(6, .int v_12), (0, .ref a0), (1, .ref aA), (2, .int tl), (3, .int rw1), (4, .int fw), (5, .int fo)]) hx hb d_SettingSearch_fewestClashing_83 hl (k := 6) rfl (by rw [ev_12]; rfl) (by decide) rfl (fun ls hl => ?_)
            refine lv_goto (tgt := 35) hx hb d_SettingSearch_fewestClashing_86 (by decide) ?_
            exact ih (i + 1) v_12 fw fo hlti (by rw [ev_12, exi]; exact nI_1 (i + 1)) (by rw [q_fc, if_neg (fun z => by first | exact c1 z.1 | exact z.2.1 c2 | exact c3 z.2.2)]; exact efw) (by rw [q_fc, if_neg (fun z => by first | exact c1 z.1 | exact z.2.1 c2 | exact c3 z.2.2)]; exact efo) (by omega) H locs (hP.sub [10, 0, 1, 2, 3, 4, 5, 6, 7, 8, 9, 11] rfl) (hD.sub [10, 0, 1, 2, 3, 4, 5, 6, 7, 8, 9, 11] (by decide) rfl) hS ls (lv_sub hl [1, 2, 3, 4, 5, 6, 0] rfl)
          · skip
            have c3 : q_nk (q_lk fK (q_kept fG fO fPo fKi fAb fBe fM np) fKR 64).1 (nI (i + 1)) (q_lk fK (q_kept fG fO fPo fKi fAb fBe fM np) fKR 64).2 = true := by
              have q := c_11
              rw [hw_10, hkr, exi] at q
              exact Decidable.byContradiction (fun z => q (if_neg z))
            refine lv_iload hx hb d_SettingSearch_fewestClashing_72 (lv_at hl 6 rfl) ?_
            have hPc := hP.sub (ws' := []) [] rfl
            have hDc := hD.sub (ws' := []) [] (by decide) rfl
            have hFc := va_free (wc := []) hD hS hA [] rfl
            refine va_calli (va_runS (As := [.int xi]) (rest := []) ⟨hx, hb, hml, hown, hts⟩ (k_bc l dC dI H.size cI cZ cQ xi ) ⟨(callB_of 1 hts (ga_all tw_404) rfl rfl rfl (hts _ tw_31) (hts _ tw_402) (by decide +kernel) ⟨Nat.le_of_ble_eq_true rfl, Nat.le_of_ble_eq_true rfl⟩), hts _ tw_403⟩ ⟨fun a U g mk q => by obtain ⟨q0, q1, qP, qK, qD⟩ := q; exact ⟨q0, q1, qP, g_K.same (u := U) (U := U.calling g mk a) rfl qK, qD⟩, fun U hU hW => ⟨rfl, by rw [hU], by rw [hU]; exact hPc, g_K.warm hW hKN, hDc.weaken (fun _ _ _ _ => trivial)⟩⟩ rfl rfl hl.1 rfl (lv_room (Nat.le_of_ble_eq_true rfl)) d_SettingSearch_fewestClashing_74 ⟨Nat.le_of_ble_eq_true rfl, Nat.le_of_ble_eq_true rfl⟩) hS (fun q _ h => hFc q h) hFc (fun r_13 u t H1 locs htt hvm hw_14 hBB hzz hkk hS => ?_)
            have hw_14 : r_13 = q_bc xi := hw_14
            obtain ⟨hPP, hDD⟩ := hBB
            rw [htt] at hPP
            have hPP : va_P (dC, dI) vw_cls [] H1 := hPP
            have hDD : va_D (va_A [] H.size) [] := hDD
            obtain ⟨hP, hD⟩ := va_join (wr := [(aR, .inr (5, [.int pu, .ref aRp, .ref aRk, .ref aRa, .ref aRb, .ref aRl])), (aRp, .inl (cI, 4, .inl fPo)), (aRk, .inl (cI, 4, .inl fKi)), (aRa, .inl (cI, 4, .inl fAb)), (aRb, .inl (cI, 4, .inl fBe)), (aRl, .inl (cI, 5, .inl fM)), (aA, .inr (2, [.long fd, .int ct, .ref aK, .ref aG, .ref aO])), (aK, .inl (cZ, 64, .inl fK)), (aG, .inl (cI, 576, .inl fG)), (aO, .inl (cI, 320, .inl fO)), (a0, .inr (0, [.ref aM, .ref aR, .ref aW, .ref aF, .ref aS, .ref aKR])), (aKR, .inl (cI, 64, .inl kr))]) (w1 := []) hP hD [] [0, 1, 2, 3, 4, 5, 6, 7, 8, 9, 10, 11] rfl rfl (by decide) (by decide) hkk hFc hPP hDD
            generalize H1 = H at hP hS ⊢
            have hP : va_P (dC, dI) vw_cls [(aR, .inr (5, [.int pu, .ref aRp, .ref aRk, .ref aRa, .ref aRb, .ref aRl])), (aRp, .inl (cI, 4, .inl fPo)), (aRk, .inl (cI, 4, .inl fKi)), (aRa, .inl (cI, 4, .inl fAb)), (aRb, .inl (cI, 4, .inl fBe)), (aRl, .inl (cI, 5, .inl fM)), (aA, .inr (2, [.long fd, .int ct, .ref aK, .ref aG, .ref aO])), (aK, .inl (cZ, 64, .inl fK)), (aG, .inl (cI, 576, .inl fG)), (aO, .inl (cI, 320, .inl fO)), (a0, .inr (0, [.ref aM, .ref aR, .ref aW, .ref aF, .ref aS, .ref aKR])), (aKR, .inl (cI, 64, .inl kr))] H := hP
            have hD : va_D A [(aR, .inr (5, [.int pu, .ref aRp, .ref aRk, .ref aRa, .ref aRb, .ref aRl])), (aRp, .inl (cI, 4, .inl fPo)), (aRk, .inl (cI, 4, .inl fKi)), (aRa, .inl (cI, 4, .inl fAb)), (aRb, .inl (cI, 4, .inl fBe)), (aRl, .inl (cI, 5, .inl fM)), (aA, .inr (2, [.long fd, .int ct, .ref aK, .ref aG, .ref aO])), (aK, .inl (cZ, 64, .inl fK)), (aG, .inl (cI, 576, .inl fG)), (aO, .inl (cI, 320, .inl fO)), (a0, .inr (0, [.ref aM, .ref aR, .ref aW, .ref aF, .ref aS, .ref aKR])), (aKR, .inl (cI, 64, .inl kr))] := hD
            refine lv_istore (lv' := [(4, .int r_13), (0, .ref a0), (1, .ref aA), (2, .int tl), (3, .int rw1), (5, .int fo), (6, .int xi)]) hx hb d_SettingSearch_fewestClashing_77 hl (by decide) rfl (fun ls hl => ?_)
            refine lv_iload hx hb d_SettingSearch_fewestClashing_79 (lv_at hl 6 rfl) ?_
            refine lv_istore (lv' := [(5, .int xi), (4, .int r_13), (0, .ref a0), (1, .ref aA), (2, .int tl), (3, .int rw1), (6, .int xi)]) hx hb d_SettingSearch_fewestClashing_81 hl (by decide) rfl (fun ls hl => ?_)
            obtain ⟨v_15, ev_15⟩ : ∃ y : Int32, y = xi + 1 := ⟨_, rfl⟩
            refine lv_iinc (v := v_15) (lv' := [(6, .int v_15), (5, .int xi), (4, .int r_13), (0, .ref a0), (1, .ref aA), (2, .int tl), (3, .int rw1)]) hx hb d_SettingSearch_fewestClashing_83 hl (k := 6) rfl (by rw [ev_15]; rfl) (by decide) rfl (fun ls hl => ?_)
            refine lv_goto (tgt := 35) hx hb d_SettingSearch_fewestClashing_86 (by decide) ?_
            exact ih (i + 1) v_15 r_13 xi hlti (by rw [ev_15, exi]; exact nI_1 (i + 1)) (by rw [hw_14, exi, q_fc, if_pos ⟨c1, c2, c3⟩]) (by rw [exi, q_fc, if_pos ⟨c1, c2, c3⟩]) (by omega) H locs (hP.sub [10, 0, 1, 2, 3, 4, 5, 6, 7, 8, 9, 11] rfl) (hD.sub [10, 0, 1, 2, 3, 4, 5, 6, 7, 8, 9, 11] (by decide) rfl) hS ls (lv_sub hl [3, 4, 5, 6, 2, 1, 0] rfl)
set_option maxHeartbeats 4000000 in
set_option maxRecDepth 100000 in
/-- fewestClashing -/
theorem k_fc (l : Launch) (dC : Nat → ClassId) (dI : Nat → Nat → Nat) (sz : Nat) (cI : ClassId) (cZ : ClassId) (cQ : ClassId) (a0 : Nat) (aM : Nat) (aR : Nat) (aW : Nat) (aF : Nat) (aS : Nat) (aKR : Nat) (aRp : Nat) (aRk : Nat) (aRa : Nat) (aRb : Nat) (aRl : Nat) (pu : Int32) (fPo : Nat → Int32) (fKi : Nat → Int32) (fAb : Nat → Int32) (fBe : Nat → Int32) (fM : Nat → Int32) (aA : Nat) (aK : Nat) (aG : Nat) (aO : Nat) (fd : Int64) (ct : Int32) (fK : Nat → Int32) (fG : Nat → Int32) (fO : Nat → Int32) (fKR : Nat → Int32) (np : Nat) (hpu : pu = nI np) (hnp : np ≤ 4) (hpk : q_okPK fPo fKi np) : Met l y_SettingSearch_fewestClashing w_SettingSearch_fewestClashing ({ frames := 5, cells := 0, slots := 0, locals := 117 } : Room) (va_Pc [.ref a0, .ref aA] (fun U => U.heap.size = sz ∧ va_P (dC, dI) vw_cls [(a0, .inr (0, [.ref aM, .ref aR, .ref aW, .ref aF, .ref aS, .ref aKR])), (aR, .inr (5, [.int pu, .ref aRp, .ref aRk, .ref aRa, .ref aRb, .ref aRl])), (aRp, .inl (cI, 4, .inl fPo)), (aRk, .inl (cI, 4, .inl fKi)), (aRa, .inl (cI, 4, .inl fAb)), (aRb, .inl (cI, 4, .inl fBe)), (aRl, .inl (cI, 5, .inl fM)), (aA, .inr (2, [.long fd, .int ct, .ref aK, .ref aG, .ref aO])), (aK, .inl (cZ, 64, .inl fK)), (aG, .inl (cI, 576, .inl fG)), (aO, .inl (cI, 320, .inl fO)), (aKR, .inl (cI, 64, .inl fKR))] U.heap ∧ g_K dC dI [(cI, .int), (cZ, .boolean), (cQ, (.object "SettingSearch$Answers"))] U ∧ va_D (fun _ => True) [(a0, .inr (0, [.ref aM, .ref aR, .ref aW, .ref aF, .ref aS, .ref aKR])), (aR, .inr (5, [.int pu, .ref aRp, .ref aRk, .ref aRa, .ref aRb, .ref aRl])), (aRp, .inl (cI, 4, .inl fPo)), (aRk, .inl (cI, 4, .inl fKi)), (aRa, .inl (cI, 4, .inl fAb)), (aRb, .inl (cI, 4, .inl fBe)), (aRl, .inl (cI, 5, .inl fM)), (aA, .inr (2, [.long fd, .int ct, .ref aK, .ref aG, .ref aO])), (aK, .inl (cZ, 64, .inl fK)), (aG, .inl (cI, 576, .inl fG)), (aO, .inl (cI, 320, .inl fO)), (aKR, .inl (cI, 64, .inl fKR))])) (va_Qi (fun (r : Int32) (u : (Nat → Int32)) => r = (if q_nk (q_lk fK (q_kept fG fO fPo fKi fAb fBe fM np) fKR 64).1 (q_told pu fM 5) (q_lk fK (q_kept fG fO fPo fKi fAb fBe fM np) fKR 64).2 = true then (q_fc (q_told pu fM 5) (fun z => q_nk (q_lk fK (q_kept fG fO fPo fKi fAb fBe fM np) fKR 64).1 z (q_lk fK (q_kept fG fO fPo fKi fAb fBe fM np) fKR 64).2) 511).2 else 0) ∧ u = (q_lk fK (q_kept fG fO fPo fKi fAb fBe fM np) fKR 64).1) (fun (u : (Nat → Int32)) (t : State) => va_P (dC, dI) vw_cls [(a0, .inr (0, [.ref aM, .ref aR, .ref aW, .ref aF, .ref aS, .ref aKR])), (aR, .inr (5, [.int pu, .ref aRp, .ref aRk, .ref aRa, .ref aRb, .ref aRl])), (aRp, .inl (cI, 4, .inl fPo)), (aRk, .inl (cI, 4, .inl fKi)), (aRa, .inl (cI, 4, .inl fAb)), (aRb, .inl (cI, 4, .inl fBe)), (aRl, .inl (cI, 5, .inl fM)), (aA, .inr (2, [.long fd, .int ct, .ref aK, .ref aG, .ref aO])), (aK, .inl (cZ, 64, .inl fK)), (aG, .inl (cI, 576, .inl fG)), (aO, .inl (cI, 320, .inl fO)), (aKR, .inl (cI, 64, .inl u))] t.heap ∧ va_D (va_A [(a0, .inr (0, [.ref aM, .ref aR, .ref aW, .ref aF, .ref aS, .ref aKR])), (aR, .inr (5, [.int pu, .ref aRp, .ref aRk, .ref aRa, .ref aRb, .ref aRl])), (aRp, .inl (cI, 4, .inl fPo)), (aRk, .inl (cI, 4, .inl fKi)), (aRa, .inl (cI, 4, .inl fAb)), (aRb, .inl (cI, 4, .inl fBe)), (aRl, .inl (cI, 5, .inl fM)), (aA, .inr (2, [.long fd, .int ct, .ref aK, .ref aG, .ref aO])), (aK, .inl (cZ, 64, .inl fK)), (aG, .inl (cI, 576, .inl fG)), (aO, .inl (cI, 320, .inl fO)), (aKR, .inl (cI, 64, .inl fKR))] sz) [(a0, .inr (0, [.ref aM, .ref aR, .ref aW, .ref aF, .ref aS, .ref aKR])), (aR, .inr (5, [.int pu, .ref aRp, .ref aRk, .ref aRa, .ref aRb, .ref aRl])), (aRp, .inl (cI, 4, .inl fPo)), (aRk, .inl (cI, 4, .inl fKi)), (aRa, .inl (cI, 4, .inl fAb)), (aRb, .inl (cI, 4, .inl fBe)), (aRl, .inl (cI, 5, .inl fM)), (aA, .inr (2, [.long fd, .int ct, .ref aK, .ref aG, .ref aO])), (aK, .inl (cZ, 64, .inl fK)), (aG, .inl (cI, 576, .inl fG)), (aO, .inl (cI, 320, .inl fO)), (aKR, .inl (cI, 64, .inl u))]) (va_A [(a0, .inr (0, [.ref aM, .ref aR, .ref aW, .ref aF, .ref aS, .ref aKR])), (aR, .inr (5, [.int pu, .ref aRp, .ref aRk, .ref aRa, .ref aRb, .ref aRl])), (aRp, .inl (cI, 4, .inl fPo)), (aRk, .inl (cI, 4, .inl fKi)), (aRa, .inl (cI, 4, .inl fAb)), (aRb, .inl (cI, 4, .inl fBe)), (aRl, .inl (cI, 5, .inl fM)), (aA, .inr (2, [.long fd, .int ct, .ref aK, .ref aG, .ref aO])), (aK, .inl (cZ, 64, .inl fK)), (aG, .inl (cI, 576, .inl fG)), (aO, .inl (cI, 320, .inl fO)), (aKR, .inl (cI, 64, .inl fKR))] sz)) 0 0 (va_A [(a0, .inr (0, [.ref aM, .ref aR, .ref aW, .ref aF, .ref aS, .ref aKR])), (aR, .inr (5, [.int pu, .ref aRp, .ref aRk, .ref aRa, .ref aRb, .ref aRl])), (aRp, .inl (cI, 4, .inl fPo)), (aRk, .inl (cI, 4, .inl fKi)), (aRa, .inl (cI, 4, .inl fAb)), (aRb, .inl (cI, 4, .inl fBe)), (aRl, .inl (cI, 5, .inl fM)), (aA, .inr (2, [.long fd, .int ct, .ref aK, .ref aG, .ref aO])), (aK, .inl (cZ, 64, .inl fK)), (aG, .inl (cI, 576, .inl fG)), (aO, .inl (cI, 320, .inl fO)), (aKR, .inl (cI, 64, .inl fKR))] sz) := by
  refine Met.ofW (cc := b_SettingSearch_fewestClashing) (maxL := 7) (ret := (some .int)) (by decide) rfl ?_
  intro p e s m args below meth c s₁ B hml hv
  obtain ⟨rfl, hsz, hP, hKN, hD0⟩ := hv
  obtain ⟨hK, hN⟩ := id hKN
  have hx := B.exec
  have hb := B.bytes
  have hr := B.returns
  have hts0 := atoms_spec (ws := w_SettingSearch_fewestClashing) B.pre
  have hts : ∀ w ∈ lw_g, w.before _ s = true := fun w h => hts0 w (List.mem_cons_of_mem _ h)
  have hown : s.vm.findClass R_SettingSearch = some m.cls := findClass_of_methodNamed B.named
  have hlocks := B.notSynchronized
  subst hsz
  have hD := hD0.self (sz := s.heap.size)
  generalize hAe : va_A [(a0, .inr (0, [.ref aM, .ref aR, .ref aW, .ref aF, .ref aS, .ref aKR])), (aR, .inr (5, [.int pu, .ref aRp, .ref aRk, .ref aRa, .ref aRb, .ref aRl])), (aRp, .inl (cI, 4, .inl fPo)), (aRk, .inl (cI, 4, .inl fKi)), (aRa, .inl (cI, 4, .inl fAb)), (aRb, .inl (cI, 4, .inl fBe)), (aRl, .inl (cI, 5, .inl fM)), (aA, .inr (2, [.long fd, .int ct, .ref aK, .ref aG, .ref aO])), (aK, .inl (cZ, 64, .inl fK)), (aG, .inl (cI, 576, .inl fG)), (aO, .inl (cI, 320, .inl fO)), (aKR, .inl (cI, 64, .inl fKR))] s.heap.size = A at hD ⊢
  have hA : ∀ q : Nat, s.heap.size ≤ q → A q := fun q h => by rw [← hAe]; exact Or.inr h
  have hP : va_P (dC, dI) vw_cls [(a0, .inr (0, [.ref aM, .ref aR, .ref aW, .ref aF, .ref aS, .ref aKR])), (aR, .inr (5, [.int pu, .ref aRp, .ref aRk, .ref aRa, .ref aRb, .ref aRl])), (aRp, .inl (cI, 4, .inl fPo)), (aRk, .inl (cI, 4, .inl fKi)), (aRa, .inl (cI, 4, .inl fAb)), (aRb, .inl (cI, 4, .inl fBe)), (aRl, .inl (cI, 5, .inl fM)), (aA, .inr (2, [.long fd, .int ct, .ref aK, .ref aG, .ref aO])), (aK, .inl (cZ, 64, .inl fK)), (aG, .inl (cI, 576, .inl fG)), (aO, .inl (cI, 320, .inl fO)), (aKR, .inl (cI, 64, .inl fKR))] s.heap := hP
  have hl := lv_entry ([.ref a0, .ref aA]) (n := 7) (Nat.le_of_ble_eq_true rfl)
  rw [lg_entry_eq]
  generalize (lg_sl ([.ref a0, .ref aA]) ++ List.replicate (7 - (lg_sl ([.ref a0, .ref aA])).length) Slot.unset).toArray = ls at hl ⊢
  have hl : lv_has ls 7 [(0, .ref a0), (1, .ref aA)] := hl
  refine gw_start (fun H locs hH hlocs => ?_)
  rw [← hH] at hP
  have hS : va_S A s.heap H locs := by rw [hH, hlocs]; exact va_S.rf
  refine lv_aload_n hx hb d_SettingSearch_fewestClashing_0 rfl (lv_at hl 0 rfl) ?_
  refine va_get (D := (dC, dI)) (ci := 0) (v := .ref aR) (C := R_SettingSearch) (T := T_SettingSearch) (N := 6) hx hb hts in_SettingSearch hown hK hP 0 rfl rfl 1 (by decide) (hts _ tw_180) (fun _ h9 => h9) rfl d_SettingSearch_fewestClashing_1 ?_
  have hPc := hP.sub (ws' := [(aR, .inr (5, [.int pu, .ref aRp, .ref aRk, .ref aRa, .ref aRb, .ref aRl])), (aRl, .inl (cI, 5, .inl fM))]) [1, 6] rfl
  have hDc := hD.sub (ws' := [(aR, .inr (5, [.int pu, .ref aRp, .ref aRk, .ref aRa, .ref aRb, .ref aRl])), (aRl, .inl (cI, 5, .inl fM))]) [1, 6] (by decide) rfl
  have hFc := va_free (wc := [(aR, .inr (5, [.int pu, .ref aRp, .ref aRk, .ref aRa, .ref aRb, .ref aRl])), (aRl, .inl (cI, 5, .inl fM))]) hD hS hA [1, 6] rfl
  refine va_calli (va_runV (As := []) (rest := []) ⟨hx, hb, hml, hown, hts⟩ (k_told l dC dI H.size cI cZ cQ aR aRp aRk aRa aRb aRl pu fM ) ⟨(callB_of 0 hts (ga_all tw_323) rfl rfl rfl (hts _ tw_24) (hts _ tw_320) (by decide +kernel) ⟨Nat.le_of_ble_eq_true rfl, Nat.le_of_ble_eq_true rfl⟩), hts _ tw_321, hts _ tw_322⟩ ⟨fun a U g mk q => by obtain ⟨q0, q1, qP, qK, qD⟩ := q; exact ⟨q0, q1, qP, g_K.same (u := U) (U := U.calling g mk a) rfl qK, qD⟩, va_recv hK hPc (ci := 5) (q0 := 0) rfl rfl, fun U hU hW => ⟨rfl, by rw [hU], by rw [hU]; exact hPc, g_K.warm hW hKN, hDc.weaken (fun _ _ _ _ => trivial)⟩⟩ rfl rfl hl.1 rfl (lv_room (Nat.le_of_ble_eq_true rfl)) d_SettingSearch_fewestClashing_4 ⟨Nat.le_of_ble_eq_true rfl, Nat.le_of_ble_eq_true rfl⟩) hS (fun q _ h => hFc q h) hFc (fun tl u t H1 locs htt hvm hw_1 hBB hzz hkk hS => ?_)
  have hw_1 : tl = q_told pu fM 5 := hw_1
  obtain ⟨hPP, hDD⟩ := hBB
  rw [htt] at hPP
  have hPP : va_P (dC, dI) vw_cls [(aR, .inr (5, [.int pu, .ref aRp, .ref aRk, .ref aRa, .ref aRb, .ref aRl])), (aRl, .inl (cI, 5, .inl fM))] H1 := hPP
  have hDD : va_D (va_A [(aR, .inr (5, [.int pu, .ref aRp, .ref aRk, .ref aRa, .ref aRb, .ref aRl])), (aRl, .inl (cI, 5, .inl fM))] H.size) [(aR, .inr (5, [.int pu, .ref aRp, .ref aRk, .ref aRa, .ref aRb, .ref aRl])), (aRl, .inl (cI, 5, .inl fM))] := hDD
  obtain ⟨hP, hD⟩ := va_join (wr := [(a0, .inr (0, [.ref aM, .ref aR, .ref aW, .ref aF, .ref aS, .ref aKR])), (aRp, .inl (cI, 4, .inl fPo)), (aRk, .inl (cI, 4, .inl fKi)), (aRa, .inl (cI, 4, .inl fAb)), (aRb, .inl (cI, 4, .inl fBe)), (aA, .inr (2, [.long fd, .int ct, .ref aK, .ref aG, .ref aO])), (aK, .inl (cZ, 64, .inl fK)), (aG, .inl (cI, 576, .inl fG)), (aO, .inl (cI, 320, .inl fO)), (aKR, .inl (cI, 64, .inl fKR))]) (w1 := [(aR, .inr (5, [.int pu, .ref aRp, .ref aRk, .ref aRa, .ref aRb, .ref aRl])), (aRl, .inl (cI, 5, .inl fM))]) hP hD [1, 6] [0, 2, 3, 4, 5, 7, 8, 9, 10, 11] rfl rfl (by decide) (by decide) hkk hFc hPP hDD
  generalize H1 = H at hP hS ⊢
  have hP : va_P (dC, dI) vw_cls [(a0, .inr (0, [.ref aM, .ref aR, .ref aW, .ref aF, .ref aS, .ref aKR])), (aRp, .inl (cI, 4, .inl fPo)), (aRk, .inl (cI, 4, .inl fKi)), (aRa, .inl (cI, 4, .inl fAb)), (aRb, .inl (cI, 4, .inl fBe)), (aA, .inr (2, [.long fd, .int ct, .ref aK, .ref aG, .ref aO])), (aK, .inl (cZ, 64, .inl fK)), (aG, .inl (cI, 576, .inl fG)), (aO, .inl (cI, 320, .inl fO)), (aKR, .inl (cI, 64, .inl fKR)), (aR, .inr (5, [.int pu, .ref aRp, .ref aRk, .ref aRa, .ref aRb, .ref aRl])), (aRl, .inl (cI, 5, .inl fM))] H := hP
  have hD : va_D A [(a0, .inr (0, [.ref aM, .ref aR, .ref aW, .ref aF, .ref aS, .ref aKR])), (aRp, .inl (cI, 4, .inl fPo)), (aRk, .inl (cI, 4, .inl fKi)), (aRa, .inl (cI, 4, .inl fAb)), (aRb, .inl (cI, 4, .inl fBe)), (aA, .inr (2, [.long fd, .int ct, .ref aK, .ref aG, .ref aO])), (aK, .inl (cZ, 64, .inl fK)), (aG, .inl (cI, 576, .inl fG)), (aO, .inl (cI, 320, .inl fO)), (aKR, .inl (cI, 64, .inl fKR)), (aR, .inr (5, [.int pu, .ref aRp, .ref aRk, .ref aRa, .ref aRb, .ref aRl])), (aRl, .inl (cI, 5, .inl fM))] := hD
  have htl : tl = q_told pu fM 5 := hw_1
  refine lv_istore_n (lv' := [(2, .int tl), (0, .ref a0), (1, .ref aA)]) hx hb d_SettingSearch_fewestClashing_7 rfl hl (by decide) rfl (fun ls hl => ?_)
  refine lv_aload_n hx hb d_SettingSearch_fewestClashing_8 rfl (lv_at hl 1 rfl) ?_
  refine lv_aload_n hx hb d_SettingSearch_fewestClashing_9 rfl (lv_at hl 2 rfl) ?_
  have hPc := hP.sub (ws' := [(a0, .inr (0, [.ref aM, .ref aR, .ref aW, .ref aF, .ref aS, .ref aKR])), (aR, .inr (5, [.int pu, .ref aRp, .ref aRk, .ref aRa, .ref aRb, .ref aRl])), (aRp, .inl (cI, 4, .inl fPo)), (aRk, .inl (cI, 4, .inl fKi)), (aRa, .inl (cI, 4, .inl fAb)), (aRb, .inl (cI, 4, .inl fBe)), (aRl, .inl (cI, 5, .inl fM)), (aA, .inr (2, [.long fd, .int ct, .ref aK, .ref aG, .ref aO])), (aK, .inl (cZ, 64, .inl fK)), (aG, .inl (cI, 576, .inl fG)), (aO, .inl (cI, 320, .inl fO)), (aKR, .inl (cI, 64, .inl fKR))]) [0, 10, 1, 2, 3, 4, 11, 5, 6, 7, 8, 9] rfl
  have hDc := hD.sub (ws' := [(a0, .inr (0, [.ref aM, .ref aR, .ref aW, .ref aF, .ref aS, .ref aKR])), (aR, .inr (5, [.int pu, .ref aRp, .ref aRk, .ref aRa, .ref aRb, .ref aRl])), (aRp, .inl (cI, 4, .inl fPo)), (aRk, .inl (cI, 4, .inl fKi)), (aRa, .inl (cI, 4, .inl fAb)), (aRb, .inl (cI, 4, .inl fBe)), (aRl, .inl (cI, 5, .inl fM)), (aA, .inr (2, [.long fd, .int ct, .ref aK, .ref aG, .ref aO])), (aK, .inl (cZ, 64, .inl fK)), (aG, .inl (cI, 576, .inl fG)), (aO, .inl (cI, 320, .inl fO)), (aKR, .inl (cI, 64, .inl fKR))]) [0, 10, 1, 2, 3, 4, 11, 5, 6, 7, 8, 9] (by decide) rfl
  have hFc := va_free (wc := [(a0, .inr (0, [.ref aM, .ref aR, .ref aW, .ref aF, .ref aS, .ref aKR])), (aR, .inr (5, [.int pu, .ref aRp, .ref aRk, .ref aRa, .ref aRb, .ref aRl])), (aRp, .inl (cI, 4, .inl fPo)), (aRk, .inl (cI, 4, .inl fKi)), (aRa, .inl (cI, 4, .inl fAb)), (aRb, .inl (cI, 4, .inl fBe)), (aRl, .inl (cI, 5, .inl fM)), (aA, .inr (2, [.long fd, .int ct, .ref aK, .ref aG, .ref aO])), (aK, .inl (cZ, 64, .inl fK)), (aG, .inl (cI, 576, .inl fG)), (aO, .inl (cI, 320, .inl fO)), (aKR, .inl (cI, 64, .inl fKR))]) hD hS hA [0, 10, 1, 2, 3, 4, 11, 5, 6, 7, 8, 9] rfl
  refine va_calli (va_runV (As := [.ref aA]) (rest := []) ⟨hx, hb, hml, hown, hts⟩ (k_lk l dC dI H.size cI cZ cQ a0 aM aR aW aF aS aKR aRp aRk aRa aRb aRl pu fPo fKi fAb fBe fM aA aK aG aO fd ct fK fG fO fKR np hpu hnp hpk) ⟨(callB_of 1 hts (ga_all tw_397) rfl rfl rfl (hts _ tw_22) (hts _ tw_394) (by decide +kernel) ⟨Nat.le_of_ble_eq_true rfl, Nat.le_of_ble_eq_true rfl⟩), hts _ tw_396, hts _ tw_6⟩ ⟨fun a U g mk q => by obtain ⟨q0, q1, qP, qK, qD⟩ := q; exact ⟨q0, q1, qP, g_K.same (u := U) (U := U.calling g mk a) rfl qK, qD⟩, va_recv hK hPc (ci := 0) (q0 := 0) rfl rfl, fun U hU hW => ⟨rfl, by rw [hU], by rw [hU]; exact hPc, g_K.warm hW hKN, hDc.weaken (fun _ _ _ _ => trivial)⟩⟩ rfl rfl hl.1 rfl (lv_room (Nat.le_of_ble_eq_true rfl)) d_SettingSearch_fewestClashing_10 ⟨Nat.le_of_ble_eq_true rfl, Nat.le_of_ble_eq_true rfl⟩) hS (fun q _ h => hFc q h) hFc (fun rw1 u t H1 locs htt hvm hw_2 hBB hzz hkk hS => ?_)
  obtain ⟨kr, rfl⟩ : ∃ z, z = u := ⟨_, rfl⟩
  have hw_2 : rw1 = nI (q_lk fK (q_kept fG fO fPo fKi fAb fBe fM np) fKR 64).2 ∧ kr = (q_lk fK (q_kept fG fO fPo fKi fAb fBe fM np) fKR 64).1 := hw_2
  obtain ⟨hPP, hDD⟩ := hBB
  rw [htt] at hPP
  have hPP : va_P (dC, dI) vw_cls [(a0, .inr (0, [.ref aM, .ref aR, .ref aW, .ref aF, .ref aS, .ref aKR])), (aR, .inr (5, [.int pu, .ref aRp, .ref aRk, .ref aRa, .ref aRb, .ref aRl])), (aRp, .inl (cI, 4, .inl fPo)), (aRk, .inl (cI, 4, .inl fKi)), (aRa, .inl (cI, 4, .inl fAb)), (aRb, .inl (cI, 4, .inl fBe)), (aRl, .inl (cI, 5, .inl fM)), (aA, .inr (2, [.long fd, .int ct, .ref aK, .ref aG, .ref aO])), (aK, .inl (cZ, 64, .inl fK)), (aG, .inl (cI, 576, .inl fG)), (aO, .inl (cI, 320, .inl fO)), (aKR, .inl (cI, 64, .inl kr))] H1 := hPP
  have hDD : va_D (va_A [(a0, .inr (0, [.ref aM, .ref aR, .ref aW, .ref aF, .ref aS, .ref aKR])), (aR, .inr (5, [.int pu, .ref aRp, .ref aRk, .ref aRa, .ref aRb, .ref aRl])), (aRp, .inl (cI, 4, .inl fPo)), (aRk, .inl (cI, 4, .inl fKi)), (aRa, .inl (cI, 4, .inl fAb)), (aRb, .inl (cI, 4, .inl fBe)), (aRl, .inl (cI, 5, .inl fM)), (aA, .inr (2, [.long fd, .int ct, .ref aK, .ref aG, .ref aO])), (aK, .inl (cZ, 64, .inl fK)), (aG, .inl (cI, 576, .inl fG)), (aO, .inl (cI, 320, .inl fO)), (aKR, .inl (cI, 64, .inl fKR))] H.size) [(a0, .inr (0, [.ref aM, .ref aR, .ref aW, .ref aF, .ref aS, .ref aKR])), (aR, .inr (5, [.int pu, .ref aRp, .ref aRk, .ref aRa, .ref aRb, .ref aRl])), (aRp, .inl (cI, 4, .inl fPo)), (aRk, .inl (cI, 4, .inl fKi)), (aRa, .inl (cI, 4, .inl fAb)), (aRb, .inl (cI, 4, .inl fBe)), (aRl, .inl (cI, 5, .inl fM)), (aA, .inr (2, [.long fd, .int ct, .ref aK, .ref aG, .ref aO])), (aK, .inl (cZ, 64, .inl fK)), (aG, .inl (cI, 576, .inl fG)), (aO, .inl (cI, 320, .inl fO)), (aKR, .inl (cI, 64, .inl kr))] := hDD
  obtain ⟨hP, hD⟩ := va_join (wr := []) (w1 := [(a0, .inr (0, [.ref aM, .ref aR, .ref aW, .ref aF, .ref aS, .ref aKR])), (aR, .inr (5, [.int pu, .ref aRp, .ref aRk, .ref aRa, .ref aRb, .ref aRl])), (aRp, .inl (cI, 4, .inl fPo)), (aRk, .inl (cI, 4, .inl fKi)), (aRa, .inl (cI, 4, .inl fAb)), (aRb, .inl (cI, 4, .inl fBe)), (aRl, .inl (cI, 5, .inl fM)), (aA, .inr (2, [.long fd, .int ct, .ref aK, .ref aG, .ref aO])), (aK, .inl (cZ, 64, .inl fK)), (aG, .inl (cI, 576, .inl fG)), (aO, .inl (cI, 320, .inl fO)), (aKR, .inl (cI, 64, .inl kr))]) hP hD [0, 10, 1, 2, 3, 4, 11, 5, 6, 7, 8, 9] [] rfl rfl (by decide) (by decide) hkk hFc hPP hDD
  generalize H1 = H at hP hS ⊢
  have hP : va_P (dC, dI) vw_cls [(a0, .inr (0, [.ref aM, .ref aR, .ref aW, .ref aF, .ref aS, .ref aKR])), (aR, .inr (5, [.int pu, .ref aRp, .ref aRk, .ref aRa, .ref aRb, .ref aRl])), (aRp, .inl (cI, 4, .inl fPo)), (aRk, .inl (cI, 4, .inl fKi)), (aRa, .inl (cI, 4, .inl fAb)), (aRb, .inl (cI, 4, .inl fBe)), (aRl, .inl (cI, 5, .inl fM)), (aA, .inr (2, [.long fd, .int ct, .ref aK, .ref aG, .ref aO])), (aK, .inl (cZ, 64, .inl fK)), (aG, .inl (cI, 576, .inl fG)), (aO, .inl (cI, 320, .inl fO)), (aKR, .inl (cI, 64, .inl kr))] H := hP
  have hD : va_D A [(a0, .inr (0, [.ref aM, .ref aR, .ref aW, .ref aF, .ref aS, .ref aKR])), (aR, .inr (5, [.int pu, .ref aRp, .ref aRk, .ref aRa, .ref aRb, .ref aRl])), (aRp, .inl (cI, 4, .inl fPo)), (aRk, .inl (cI, 4, .inl fKi)), (aRa, .inl (cI, 4, .inl fAb)), (aRb, .inl (cI, 4, .inl fBe)), (aRl, .inl (cI, 5, .inl fM)), (aA, .inr (2, [.long fd, .int ct, .ref aK, .ref aG, .ref aO])), (aK, .inl (cZ, 64, .inl fK)), (aG, .inl (cI, 576, .inl fG)), (aO, .inl (cI, 320, .inl fO)), (aKR, .inl (cI, 64, .inl kr))] := hD
  have hrw : rw1 = nI (q_lk fK (q_kept fG fO fPo fKi fAb fBe fM np) fKR 64).2 := hw_2.1
  have hkr : kr = (q_lk fK (q_kept fG fO fPo fKi fAb fBe fM np) fKR 64).1 := hw_2.2
  have hnr : (q_lk fK (q_kept fG fO fPo fKi fAb fBe fM np) fKR 64).2 ≤ 64 := q_lk_le _ _ _ _
  refine lv_istore_n (lv' := [(3, .int rw1), (2, .int tl), (0, .ref a0), (1, .ref aA)]) hx hb d_SettingSearch_fewestClashing_13 rfl hl (by decide) rfl (fun ls hl => ?_)
  refine lv_aload_n hx hb d_SettingSearch_fewestClashing_14 rfl (lv_at hl 2 rfl) ?_
  refine lv_iload_n hx hb d_SettingSearch_fewestClashing_15 rfl (lv_at hl 1 rfl) ?_
  refine lv_iload_n hx hb d_SettingSearch_fewestClashing_16 rfl (lv_at hl 0 rfl) ?_
  have hPc := hP.sub (ws' := [(a0, .inr (0, [.ref aM, .ref aR, .ref aW, .ref aF, .ref aS, .ref aKR])), (aKR, .inl (cI, 64, .inl kr))]) [0, 11] rfl
  have hDc := hD.sub (ws' := [(a0, .inr (0, [.ref aM, .ref aR, .ref aW, .ref aF, .ref aS, .ref aKR])), (aKR, .inl (cI, 64, .inl kr))]) [0, 11] (by decide) rfl
  have hFc := va_free (wc := [(a0, .inr (0, [.ref aM, .ref aR, .ref aW, .ref aF, .ref aS, .ref aKR])), (aKR, .inl (cI, 64, .inl kr))]) hD hS hA [0, 11] rfl
  refine va_calli (va_runV (As := [.int tl, .int rw1]) (rest := []) ⟨hx, hb, hml, hown, hts⟩ (k_nk l dC dI H.size cI cZ cQ a0 aM aR aW aF aS aKR kr tl rw1 ((q_lk fK (q_kept fG fO fPo fKi fAb fBe fM np) fKR 64).2) hrw hnr) ⟨(callB_of 2 hts (ga_all tw_401) rfl rfl rfl (hts _ tw_22) (hts _ tw_398) (by decide +kernel) ⟨Nat.le_of_ble_eq_true rfl, Nat.le_of_ble_eq_true rfl⟩), hts _ tw_400, hts _ tw_7⟩ ⟨fun a U g mk q => by obtain ⟨q0, q1, qP, qK, qD⟩ := q; exact ⟨q0, q1, qP, g_K.same (u := U) (U := U.calling g mk a) rfl qK, qD⟩, va_recv hK hPc (ci := 0) (q0 := 0) rfl rfl, fun U hU hW => ⟨rfl, by rw [hU], by rw [hU]; exact hPc, g_K.warm hW hKN, hDc.weaken (fun _ _ _ _ => trivial)⟩⟩ rfl rfl hl.1 rfl (lv_room (Nat.le_of_ble_eq_true rfl)) d_SettingSearch_fewestClashing_17 ⟨Nat.le_of_ble_eq_true rfl, Nat.le_of_ble_eq_true rfl⟩) hS (fun q _ h => hFc q h) hFc (fun r_3 u t H1 locs htt hvm hw_4 hBB hzz hkk hS => ?_)
  have hw_4 : r_3 = if q_nk kr tl ((q_lk fK (q_kept fG fO fPo fKi fAb fBe fM np) fKR 64).2) = true then 1 else 0 := hw_4
  obtain ⟨hPP, hDD⟩ := hBB
  rw [htt] at hPP
  have hPP : va_P (dC, dI) vw_cls [(a0, .inr (0, [.ref aM, .ref aR, .ref aW, .ref aF, .ref aS, .ref aKR])), (aKR, .inl (cI, 64, .inl kr))] H1 := hPP
  have hDD : va_D (va_A [(a0, .inr (0, [.ref aM, .ref aR, .ref aW, .ref aF, .ref aS, .ref aKR])), (aKR, .inl (cI, 64, .inl kr))] H.size) [(a0, .inr (0, [.ref aM, .ref aR, .ref aW, .ref aF, .ref aS, .ref aKR])), (aKR, .inl (cI, 64, .inl kr))] := hDD
  obtain ⟨hP, hD⟩ := va_join (wr := [(aR, .inr (5, [.int pu, .ref aRp, .ref aRk, .ref aRa, .ref aRb, .ref aRl])), (aRp, .inl (cI, 4, .inl fPo)), (aRk, .inl (cI, 4, .inl fKi)), (aRa, .inl (cI, 4, .inl fAb)), (aRb, .inl (cI, 4, .inl fBe)), (aRl, .inl (cI, 5, .inl fM)), (aA, .inr (2, [.long fd, .int ct, .ref aK, .ref aG, .ref aO])), (aK, .inl (cZ, 64, .inl fK)), (aG, .inl (cI, 576, .inl fG)), (aO, .inl (cI, 320, .inl fO))]) (w1 := [(a0, .inr (0, [.ref aM, .ref aR, .ref aW, .ref aF, .ref aS, .ref aKR])), (aKR, .inl (cI, 64, .inl kr))]) hP hD [0, 11] [1, 2, 3, 4, 5, 6, 7, 8, 9, 10] rfl rfl (by decide) (by decide) hkk hFc hPP hDD
  generalize H1 = H at hP hS ⊢
  have hP : va_P (dC, dI) vw_cls [(aR, .inr (5, [.int pu, .ref aRp, .ref aRk, .ref aRa, .ref aRb, .ref aRl])), (aRp, .inl (cI, 4, .inl fPo)), (aRk, .inl (cI, 4, .inl fKi)), (aRa, .inl (cI, 4, .inl fAb)), (aRb, .inl (cI, 4, .inl fBe)), (aRl, .inl (cI, 5, .inl fM)), (aA, .inr (2, [.long fd, .int ct, .ref aK, .ref aG, .ref aO])), (aK, .inl (cZ, 64, .inl fK)), (aG, .inl (cI, 576, .inl fG)), (aO, .inl (cI, 320, .inl fO)), (a0, .inr (0, [.ref aM, .ref aR, .ref aW, .ref aF, .ref aS, .ref aKR])), (aKR, .inl (cI, 64, .inl kr))] H := hP
  have hD : va_D A [(aR, .inr (5, [.int pu, .ref aRp, .ref aRk, .ref aRa, .ref aRb, .ref aRl])), (aRp, .inl (cI, 4, .inl fPo)), (aRk, .inl (cI, 4, .inl fKi)), (aRa, .inl (cI, 4, .inl fAb)), (aRb, .inl (cI, 4, .inl fBe)), (aRl, .inl (cI, 5, .inl fM)), (aA, .inr (2, [.long fd, .int ct, .ref aK, .ref aG, .ref aO])), (aK, .inl (cZ, 64, .inl fK)), (aG, .inl (cI, 576, .inl fG)), (aO, .inl (cI, 320, .inl fO)), (a0, .inr (0, [.ref aM, .ref aR, .ref aW, .ref aF, .ref aS, .ref aKR])), (aKR, .inl (cI, 64, .inl kr))] := hD
  refine lv_if_ne (tgt := 25) hx hb d_SettingSearch_fewestClashing_20 (by decide) (fun c_5 => ?_) (fun c_5 => ?_)
  · skip
    have cn : q_nk (q_lk fK (q_kept fG fO fPo fKi fAb fBe fM np) fKR 64).1 (q_told pu fM 5) (q_lk fK (q_kept fG fO fPo fKi fAb fBe fM np) fKR 64).2 = true := by
      have q := c_5
      rw [hw_4, hkr, htl] at q
      exact Decidable.byContradiction (fun z => q (if_neg z))
    refine lv_bipush (v := 10) hx hb d_SettingSearch_fewestClashing_25 (by decide) ?_
    refine lv_istore (lv' := [(4, .int 10), (3, .int rw1), (2, .int tl), (0, .ref a0), (1, .ref aA)]) hx hb d_SettingSearch_fewestClashing_27 hl (by decide) rfl (fun ls hl => ?_)
    refine lv_iconst (v := 0) hx hb d_SettingSearch_fewestClashing_29 (by decide) ?_
    refine lv_istore (lv' := [(5, .int 0), (4, .int 10), (3, .int rw1), (2, .int tl), (0, .ref a0), (1, .ref aA)]) hx hb d_SettingSearch_fewestClashing_30 hl (by decide) rfl (fun ls hl => ?_)
    refine lv_iconst (v := 1) hx hb d_SettingSearch_fewestClashing_32 (by decide) ?_
    refine lv_istore (lv' := [(6, .int 1), (5, .int 0), (4, .int 10), (3, .int rw1), (2, .int tl), (0, .ref a0), (1, .ref aA)]) hx hb d_SettingSearch_fewestClashing_33 hl (by decide) rfl (fun ls hl => ?_)
    refine L_fc hx hb hml hown hts hA cI cZ cQ a0 aM aR aW aF aS aKR aRp aRk aRa aRb aRl pu fPo fKi fAb fBe fM aA aK aG aO fd ct fK fG fO fKR np tl rw1 kr hpu hnp hpk htl hrw hkr hnr hKN ?_ (512 - 0 + 1) 0 1 10 0 (by decide) rfl rfl rfl (Nat.lt_succ_self _) H locs (hP.sub [10, 0, 1, 2, 3, 4, 5, 6, 7, 8, 9, 11] rfl) (hD.sub [10, 0, 1, 2, 3, 4, 5, 6, 7, 8, 9, 11] (by decide) rfl) hS ls (lv_sub hl [5, 6, 4, 3, 2, 1, 0] rfl)
    intro i xi fw fo hi exi efw efo hendi H locs hP hD hS ls hl
    have hl : lv_has ls 7 [(0, .ref a0), (1, .ref aA), (2, .int tl), (3, .int rw1), (4, .int fw), (5, .int fo), (6, .int xi)] := hl
    have hP : va_P (dC, dI) vw_cls [(a0, .inr (0, [.ref aM, .ref aR, .ref aW, .ref aF, .ref aS, .ref aKR])), (aR, .inr (5, [.int pu, .ref aRp, .ref aRk, .ref aRa, .ref aRb, .ref aRl])), (aRp, .inl (cI, 4, .inl fPo)), (aRk, .inl (cI, 4, .inl fKi)), (aRa, .inl (cI, 4, .inl fAb)), (aRb, .inl (cI, 4, .inl fBe)), (aRl, .inl (cI, 5, .inl fM)), (aA, .inr (2, [.long fd, .int ct, .ref aK, .ref aG, .ref aO])), (aK, .inl (cZ, 64, .inl fK)), (aG, .inl (cI, 576, .inl fG)), (aO, .inl (cI, 320, .inl fO)), (aKR, .inl (cI, 64, .inl kr))] H := hP
    have hD : va_D A [(a0, .inr (0, [.ref aM, .ref aR, .ref aW, .ref aF, .ref aS, .ref aKR])), (aR, .inr (5, [.int pu, .ref aRp, .ref aRk, .ref aRa, .ref aRb, .ref aRl])), (aRp, .inl (cI, 4, .inl fPo)), (aRk, .inl (cI, 4, .inl fKi)), (aRa, .inl (cI, 4, .inl fAb)), (aRb, .inl (cI, 4, .inl fBe)), (aRl, .inl (cI, 5, .inl fM)), (aA, .inr (2, [.long fd, .int ct, .ref aK, .ref aG, .ref aO])), (aK, .inl (cZ, 64, .inl fK)), (aG, .inl (cI, 576, .inl fG)), (aO, .inl (cI, 320, .inl fO)), (aKR, .inl (cI, 64, .inl kr))] := hD
    refine lv_iload hx hb d_SettingSearch_fewestClashing_89 (lv_at hl 5 rfl) ?_
    have hP9 := hP.sub (ws' := [(a0, .inr (0, [.ref aM, .ref aR, .ref aW, .ref aF, .ref aS, .ref aKR])), (aR, .inr (5, [.int pu, .ref aRp, .ref aRk, .ref aRa, .ref aRb, .ref aRl])), (aRp, .inl (cI, 4, .inl fPo)), (aRk, .inl (cI, 4, .inl fKi)), (aRa, .inl (cI, 4, .inl fAb)), (aRb, .inl (cI, 4, .inl fBe)), (aRl, .inl (cI, 5, .inl fM)), (aA, .inr (2, [.long fd, .int ct, .ref aK, .ref aG, .ref aO])), (aK, .inl (cZ, 64, .inl fK)), (aG, .inl (cI, 576, .inl fG)), (aO, .inl (cI, 320, .inl fO)), (aKR, .inl (cI, 64, .inl kr))]) [0, 1, 2, 3, 4, 5, 6, 7, 8, 9, 10, 11] rfl
    have hD9 := hD.sub (ws' := [(a0, .inr (0, [.ref aM, .ref aR, .ref aW, .ref aF, .ref aS, .ref aKR])), (aR, .inr (5, [.int pu, .ref aRp, .ref aRk, .ref aRa, .ref aRb, .ref aRl])), (aRp, .inl (cI, 4, .inl fPo)), (aRk, .inl (cI, 4, .inl fKi)), (aRa, .inl (cI, 4, .inl fAb)), (aRb, .inl (cI, 4, .inl fBe)), (aRl, .inl (cI, 5, .inl fM)), (aA, .inr (2, [.long fd, .int ct, .ref aK, .ref aG, .ref aO])), (aK, .inl (cZ, 64, .inl fK)), (aG, .inl (cI, 576, .inl fG)), (aO, .inl (cI, 320, .inl fO)), (aKR, .inl (cI, 64, .inl kr))]) [0, 1, 2, 3, 4, 5, 6, 7, 8, 9, 10, 11] (by decide) rfl
    have hpost_6 : (fo : Int32) = (if q_nk (q_lk fK (q_kept fG fO fPo fKi fAb fBe fM np) fKR 64).1 (q_told pu fM 5) (q_lk fK (q_kept fG fO fPo fKi fAb fBe fM np) fKR 64).2 = true then (q_fc (q_told pu fM 5) (fun z => q_nk (q_lk fK (q_kept fG fO fPo fKi fAb fBe fM np) fKR 64).1 z (q_lk fK (q_kept fG fO fPo fKi fAb fBe fM np) fKR 64).2) 511).2 else 0) ∧ kr = (q_lk fK (q_kept fG fO fPo fKi fAb fBe fM np) fKR 64).1 := ⟨by rw [if_pos cn, efo, show i = 511 by omega], hkr⟩
    exact W.iret (v := fo) hx hb hr (fun t ht hW => ⟨⟨fo, kr, rfl, hpost_6, by rw [ht]; exact hP9, hD9⟩, hS.F ht⟩) hS.2.2 d_SettingSearch_fewestClashing_91
  · skip
    have cn : ¬ q_nk (q_lk fK (q_kept fG fO fPo fKi fAb fBe fM np) fKR 64).1 (q_told pu fM 5) (q_lk fK (q_kept fG fO fPo fKi fAb fBe fM np) fKR 64).2 = true := by
      intro z
      have q := c_5
      rw [hw_4, hkr, htl, if_pos z] at q
      exact absurd q (by decide)
    refine lv_iconst (v := 0) hx hb d_SettingSearch_fewestClashing_23 (by decide) ?_
    have hP9 := hP.sub (ws' := [(a0, .inr (0, [.ref aM, .ref aR, .ref aW, .ref aF, .ref aS, .ref aKR])), (aR, .inr (5, [.int pu, .ref aRp, .ref aRk, .ref aRa, .ref aRb, .ref aRl])), (aRp, .inl (cI, 4, .inl fPo)), (aRk, .inl (cI, 4, .inl fKi)), (aRa, .inl (cI, 4, .inl fAb)), (aRb, .inl (cI, 4, .inl fBe)), (aRl, .inl (cI, 5, .inl fM)), (aA, .inr (2, [.long fd, .int ct, .ref aK, .ref aG, .ref aO])), (aK, .inl (cZ, 64, .inl fK)), (aG, .inl (cI, 576, .inl fG)), (aO, .inl (cI, 320, .inl fO)), (aKR, .inl (cI, 64, .inl kr))]) [10, 0, 1, 2, 3, 4, 5, 6, 7, 8, 9, 11] rfl
    have hD9 := hD.sub (ws' := [(a0, .inr (0, [.ref aM, .ref aR, .ref aW, .ref aF, .ref aS, .ref aKR])), (aR, .inr (5, [.int pu, .ref aRp, .ref aRk, .ref aRa, .ref aRb, .ref aRl])), (aRp, .inl (cI, 4, .inl fPo)), (aRk, .inl (cI, 4, .inl fKi)), (aRa, .inl (cI, 4, .inl fAb)), (aRb, .inl (cI, 4, .inl fBe)), (aRl, .inl (cI, 5, .inl fM)), (aA, .inr (2, [.long fd, .int ct, .ref aK, .ref aG, .ref aO])), (aK, .inl (cZ, 64, .inl fK)), (aG, .inl (cI, 576, .inl fG)), (aO, .inl (cI, 320, .inl fO)), (aKR, .inl (cI, 64, .inl kr))]) [10, 0, 1, 2, 3, 4, 5, 6, 7, 8, 9, 11] (by decide) rfl
    have hpost_7 : (0 : Int32) = (if q_nk (q_lk fK (q_kept fG fO fPo fKi fAb fBe fM np) fKR 64).1 (q_told pu fM 5) (q_lk fK (q_kept fG fO fPo fKi fAb fBe fM np) fKR 64).2 = true then (q_fc (q_told pu fM 5) (fun z => q_nk (q_lk fK (q_kept fG fO fPo fKi fAb fBe fM np) fKR 64).1 z (q_lk fK (q_kept fG fO fPo fKi fAb fBe fM np) fKR 64).2) 511).2 else 0) ∧ kr = (q_lk fK (q_kept fG fO fPo fKi fAb fBe fM np) fKR 64).1 := ⟨by rw [if_neg cn], hkr⟩
    exact W.iret (v := 0) hx hb hr (fun t ht hW => ⟨⟨0, kr, rfl, hpost_7, by rw [ht]; exact hP9, hD9⟩, hS.F ht⟩) hS.2.2 d_SettingSearch_fewestClashing_24
set_option maxHeartbeats 4000000 in
set_option maxRecDepth 100000 in
theorem L_na {p : Program} {l : Launch} {e : Env} {s : State} {m : MethodId} {args : Array Value} {below : List Frame} {meth : Method} {c : Code} {Q : State → Prop} {A : Nat → Prop} (hx : p.tables.exec = Jvm.exec) (hb : c.code = b_SettingSearch_numberAt) (hml : c.maxLocals = 4) (hown : s.vm.findClass R_SettingSearch = some m.cls) (hts : ∀ w ∈ lw_g, w.before args s = true) (hA : ∀ q, s.heap.size ≤ q → A q) {dC : Nat → ClassId} {dI : Nat → Nat → Nat} (cI : ClassId) (cZ : ClassId) (cQ : ClassId) (s1 : Int32) (k1 : Int32)    (hKN : g_K dC dI [(cI, .int), (cZ, .boolean), (cQ, (.object "SettingSearch$Answers"))] s)
    (kx_34 : ∀ (i : Nat) (_ : -1 = q_na s1 k1 9 0 0) (H : Heap) (locs : List Loc), va_P (dC, dI) vw_cls [] H → va_D A [] → va_S A s.heap H locs → ∀ (ls : Array Slot), lv_has ls 4 [] → W p l e ({ frames := 0, cells := 0, slots := 0, locals := 0 } : Room) s m args below meth c H locs 0 0 Q (F0 m 34 ls []))
    (kx_23 : ∀ (i : Nat) (xi : Int32) (_ : xi = nI i) (_ : q_na s1 k1 9 0 0 = nI i) (H : Heap) (locs : List Loc), va_P (dC, dI) vw_cls [] H → va_D A [] → va_S A s.heap H locs → ∀ (ls : Array Slot), lv_has ls 4 [(3, .int xi)] → W p l e ({ frames := 0, cells := 0, slots := 0, locals := 0 } : Room) s m args below meth c H locs 0 0 Q (F0 m 23 ls [])) :
    ∀ (n : Nat) (i : Nat) (xi : Int32) (ps : Int32) (_ : i ≤ 9) (_ : xi = nI i) (_ : q_na s1 k1 (9 - i) i ps = q_na s1 k1 9 0 0) (_ : 9 - i < n) (H : Heap) (locs : List Loc), va_P (dC, dI) vw_cls [] H → va_D A [] → va_S A s.heap H locs → ∀ (ls : Array Slot), lv_has ls 4 [(0, .int s1), (1, .int k1), (2, .int ps), (3, .int xi)] → W p l e ({ frames := 0, cells := 0, slots := 0, locals := 0 } : Room) s m args below meth c H locs 0 0 Q (F0 m 4 ls []) := by
  obtain ⟨hK, hN⟩ := id hKN
  intro n
  induction n with
  | zero =>
    intro i xi ps hi exi hna hm
    exact absurd hm (Nat.not_lt_zero _)
  | succ n ih =>
    intro i xi ps hi exi hna hm H locs hP hD hS ls hl
    refine lv_iload_n hx hb d_SettingSearch_numberAt_4 rfl (lv_at hl 3 rfl) ?_
    refine lv_bipush (v := 9) hx hb d_SettingSearch_numberAt_5 (by decide) ?_
    refine lv_icmp_ge (tgt := 34) hx hb d_SettingSearch_numberAt_7 (by decide) (fun c_1 => ?_) (fun c_1 => ?_)
    · skip
      have hendi := lp_ge (N := 9) c_1 exi rfl hi (by omega)
      exact kx_34 i (by rw [← hna, hendi]; rfl) H locs (hP.sub [] rfl) (hD.sub [] (by decide) rfl) hS ls (lv_sub hl [] rfl)
    · skip
      have hlti := lp_lt (N := 9) c_1 exi rfl (by omega)
      refine lv_iload_n hx hb d_SettingSearch_numberAt_10 rfl (lv_at hl 0 rfl) ?_
      refine lv_iconst (v := 1) hx hb d_SettingSearch_numberAt_11 (by decide) ?_
      refine lv_iload_n hx hb d_SettingSearch_numberAt_12 rfl (lv_at hl 3 rfl) ?_
      refine lv_ishl hx hb d_SettingSearch_numberAt_13 ?_
      refine lv_topi (fun v_2 ev_2 => ?_)
      refine lv_iand hx hb d_SettingSearch_numberAt_14 ?_
      refine lv_topi (fun v_3 ev_3 => ?_)
      refine lv_if_eq (tgt := 28) hx hb d_SettingSearch_numberAt_15 (by decide) (fun c_4 => ?_) (fun c_4 => ?_)
      · skip
        have cs : s1 &&& (1 <<< (nI i &&& 31)) = 0 := by have q := c_4; simp only [ev_2, ev_3, exi] at q; exact q
        obtain ⟨v_5, ev_5⟩ : ∃ y : Int32, y = xi + 1 := ⟨_, rfl⟩
        refine lv_iinc (v := v_5) (lv' := [(3, .int v_5), (0, .int s1), (1, .int k1), (2, .int ps)]) hx hb d_SettingSearch_numberAt_28 hl (k := 3) rfl (by rw [ev_5]; rfl) (by decide) rfl (fun ls hl => ?_)
        refine lv_goto (tgt := 4) hx hb d_SettingSearch_numberAt_31 (by decide) ?_
        exact ih (i + 1) v_5 ps hlti (by rw [ev_5, exi]; exact nI_1 i) (by rw [← hna, show 9 - i = (9 - (i + 1)) + 1 by omega]; rw [q_na, if_pos cs]) (by omega) H locs (hP.sub [] rfl) (hD.sub [] (by decide) rfl) hS ls (lv_sub hl [1, 2, 3, 0] rfl)
      · skip
        have cs : ¬ s1 &&& (1 <<< (nI i &&& 31)) = 0 := by have q := c_4; simp only [ev_2, ev_3, exi] at q; exact q
        refine lv_iload_n hx hb d_SettingSearch_numberAt_18 rfl (lv_at hl 2 rfl) ?_
        refine lv_iload_n hx hb d_SettingSearch_numberAt_19 rfl (lv_at hl 1 rfl) ?_
        refine lv_icmp_ne (tgt := 25) hx hb d_SettingSearch_numberAt_20 (by decide) (fun c_6 => ?_) (fun c_6 => ?_)
        · skip
          have cp : ¬ ps = k1 := c_6
          obtain ⟨v_7, ev_7⟩ : ∃ y : Int32, y = ps + 1 := ⟨_, rfl⟩
          refine lv_iinc (v := v_7) (lv' := [(2, .int v_7), (0, .int s1), (1, .int k1), (3, .int xi)]) hx hb d_SettingSearch_numberAt_25 hl (k := 2) rfl (by rw [ev_7]; rfl) (by decide) rfl (fun ls hl => ?_)
          obtain ⟨v_8, ev_8⟩ : ∃ y : Int32, y = xi + 1 := ⟨_, rfl⟩
          refine lv_iinc (v := v_8) (lv' := [(3, .int v_8), (2, .int v_7), (0, .int s1), (1, .int k1)]) hx hb d_SettingSearch_numberAt_28 hl (k := 3) rfl (by rw [ev_8]; rfl) (by decide) rfl (fun ls hl => ?_)
          refine lv_goto (tgt := 4) hx hb d_SettingSearch_numberAt_31 (by decide) ?_
          exact ih (i + 1) v_8 v_7 hlti (by rw [ev_8, exi]; exact nI_1 i) (by rw [← hna, show 9 - i = (9 - (i + 1)) + 1 by omega, ev_7]; rw [q_na, if_neg cs, if_neg cp]) (by omega) H locs (hP.sub [] rfl) (hD.sub [] (by decide) rfl) hS ls (lv_sub hl [2, 3, 1, 0] rfl)
        · skip
          have cp : ps = k1 := c_6
          have hfin : q_na s1 k1 9 0 0 = nI i := by rw [← hna, show 9 - i = (9 - (i + 1)) + 1 by omega, q_na, if_neg cs, if_pos cp]
          exact kx_23 i xi exi hfin H locs (hP.sub [] rfl) (hD.sub [] (by decide) rfl) hS ls (lv_sub hl [3] rfl)
set_option maxHeartbeats 4000000 in
set_option maxRecDepth 100000 in
/-- numberAt -/
theorem k_na (l : Launch) (dC : Nat → ClassId) (dI : Nat → Nat → Nat) (sz : Nat) (cI : ClassId) (cZ : ClassId) (cQ : ClassId) (s1 : Int32) (k1 : Int32)  : Met l y_SettingSearch_numberAt w_SettingSearch_numberAt ({ frames := 0, cells := 0, slots := 0, locals := 0 } : Room) (va_Pc [.int s1, .int k1] (fun U => U.heap.size = sz ∧ va_P (dC, dI) vw_cls [] U.heap ∧ g_K dC dI [(cI, .int), (cZ, .boolean), (cQ, (.object "SettingSearch$Answers"))] U ∧ va_D (fun _ => True) [])) (va_Qi (fun (r : Int32) (u : Unit) => r = q_na s1 k1 9 0 0) (fun (u : Unit) (t : State) => va_P (dC, dI) vw_cls [] t.heap ∧ va_D (va_A [] sz) []) (va_A [] sz)) 0 0 (va_A [] sz) := by
  refine Met.ofW (cc := b_SettingSearch_numberAt) (maxL := 4) (ret := (some .int)) (by decide) rfl ?_
  intro p e s m args below meth c s₁ B hml hv
  obtain ⟨rfl, hsz, hP, hKN, hD0⟩ := hv
  obtain ⟨hK, hN⟩ := id hKN
  have hx := B.exec
  have hb := B.bytes
  have hr := B.returns
  have hts0 := atoms_spec (ws := w_SettingSearch_numberAt) B.pre
  have hts : ∀ w ∈ lw_g, w.before _ s = true := fun w h => hts0 w (List.mem_cons_of_mem _ h)
  have hown : s.vm.findClass R_SettingSearch = some m.cls := findClass_of_methodNamed B.named
  have hlocks := B.notSynchronized
  subst hsz
  have hD := hD0.self (sz := s.heap.size)
  generalize hAe : va_A [] s.heap.size = A at hD ⊢
  have hA : ∀ q : Nat, s.heap.size ≤ q → A q := fun q h => by rw [← hAe]; exact Or.inr h
  have hP : va_P (dC, dI) vw_cls [] s.heap := hP
  have hl := lv_entry ([.int s1, .int k1]) (n := 4) (Nat.le_of_ble_eq_true rfl)
  rw [lg_entry_eq]
  generalize (lg_sl ([.int s1, .int k1]) ++ List.replicate (4 - (lg_sl ([.int s1, .int k1])).length) Slot.unset).toArray = ls at hl ⊢
  have hl : lv_has ls 4 [(0, .int s1), (1, .int k1)] := hl
  refine gw_start (fun H locs hH hlocs => ?_)
  rw [← hH] at hP
  have hS : va_S A s.heap H locs := by rw [hH, hlocs]; exact va_S.rf
  refine lv_iconst (v := 0) hx hb d_SettingSearch_numberAt_0 (by decide) ?_
  refine lv_istore_n (lv' := [(2, .int 0), (0, .int s1), (1, .int k1)]) hx hb d_SettingSearch_numberAt_1 rfl hl (by decide) rfl (fun ls hl => ?_)
  refine lv_iconst (v := 0) hx hb d_SettingSearch_numberAt_2 (by decide) ?_
  refine lv_istore_n (lv' := [(3, .int 0), (2, .int 0), (0, .int s1), (1, .int k1)]) hx hb d_SettingSearch_numberAt_3 rfl hl (by decide) rfl (fun ls hl => ?_)
  refine L_na hx hb hml hown hts hA cI cZ cQ s1 k1 hKN ?_ ?_ (9 - 0 + 1) 0 0 0 (Nat.zero_le _) rfl rfl (Nat.lt_succ_self _) H locs (hP.sub [] rfl) (hD.sub [] (by decide) rfl) hS ls (lv_sub hl [2, 3, 1, 0] rfl)
  · skip
    intro i hfin H locs hP hD hS ls hl
    have hl : lv_has ls 4 [] := hl
    have hP : va_P (dC, dI) vw_cls [] H := hP
    have hD : va_D A [] := hD
    refine lv_iconst (v := (-1)) hx hb d_SettingSearch_numberAt_34 (by decide) ?_
    have hP9 := hP.sub (ws' := []) [] rfl
    have hD9 := hD.sub (ws' := []) [] (by decide) rfl
    have hpost_1 : ((-1) : Int32) = q_na s1 k1 9 0 0 := hfin
    exact W.iret (v := (-1)) hx hb hr (fun t ht hW => ⟨⟨(-1), (), rfl, hpost_1, by rw [ht]; exact hP9, hD9⟩, hS.F ht⟩) hS.2.2 d_SettingSearch_numberAt_35
  · skip
    intro i xi exi hfin H locs hP hD hS ls hl
    have hl : lv_has ls 4 [(3, .int xi)] := hl
    have hP : va_P (dC, dI) vw_cls [] H := hP
    have hD : va_D A [] := hD
    refine lv_iload_n hx hb d_SettingSearch_numberAt_23 rfl (lv_at hl 0 rfl) ?_
    have hP9 := hP.sub (ws' := []) [] rfl
    have hD9 := hD.sub (ws' := []) [] (by decide) rfl
    have hpost_2 : (xi : Int32) = q_na s1 k1 9 0 0 := by rw [hfin]; exact exi
    exact W.iret (v := xi) hx hb hr (fun t ht hW => ⟨⟨xi, (), rfl, hpost_2, by rw [ht]; exact hP9, hD9⟩, hS.F ht⟩) hS.2.2 d_SettingSearch_numberAt_24
