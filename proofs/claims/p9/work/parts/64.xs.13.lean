set_option maxHeartbeats 4000000 in
set_option maxRecDepth 100000 in
theorem sx_fault {p : Program} {l : Launch} {e : Env} {s : State} {m : MethodId} {below : List Frame} {meth : Method} {c : Code} {b Ls : Nat} {xs : Nat → Int32} {G : g5_G} {A : Nat → Prop} {Q : State → Prop} {H : Heap} {locs : List Loc} {ls : Array Slot} {cells slots : Nat} {w pl : va_W} {Lw : List LR} {a_o : Nat} {f_ro : Nat → Int32} {f_im : Nat → Int32} {f_ke : Nat → Int32} {f_x : Nat → Int32} {e_tl : Int32} {e_fd : Int32} {f_wd : Nat → Int32} {e_wn : Int32} (C : lwC p s m meth c b Ls xs G) (hA : ∀ q : Nat, s.heap.size ≤ q → A q) (hT : g5_S A s s.heap) (hS : va_S A s.heap H locs) (hsz : ls.size = 4) (hrm : cells + 4 ≤ 600000 ∧ slots + 429 ≤ 7302250) (hLO : LOK Lw) (hI : XW G Lw a_o f_ro f_im f_ke f_x e_tl e_fd f_wd e_wn w) (hP : va_P G.1 vwCl (w ++ (pl ++ pflat G Lw)) H) (hD : va_D A (w ++ (pl ++ pflat G Lw))) (kk : ∀ (r : Int32) (w2 : va_W), XW G Lw a_o f_ro f_im f_ke f_x e_tl e_fd f_wd e_wn w2 → ∀ {H : Heap} {locs : List Loc}, va_P G.1 vwCl (w2 ++ (pl ++ pflat G Lw)) H → va_D A (w2 ++ (pl ++ pflat G Lw)) → va_S A s.heap H locs → W p l e room_1 s m #[Value.ref b] below meth c H locs cells slots Q (F0 m 637 ls [.int r])) : W p l e room_1 s m #[Value.ref b] below meth c H locs cells slots Q (F0 m 634 ls [.ref a_o]) := by
  obtain ⟨⟨hx, hb, hr, hml, hown, hts0, hX, hbl, hlocks, hgv⟩, hK, hN⟩ := C
  have hown : s.vm.findClass RL = some m.cls := hown
  have hts : ∀ w ∈ tblG, w.before #[Value.ref b] s = true := fun w h => hts0 w (List.mem_filter.mp h).1
  obtain ⟨a_h, a_im, a_ke, a_k, a_wa, a_th, a_ha, a_wk, a_r, wO, wH, wI, wK, wW, wT, wG, wA, wR, rfl, hBO, hBH, hBI, hBK, hBW, hBT, hBG, hBA, hBR⟩ := hI
  simp only [List.append_assoc] at hP hD
  have key : ∀ (r : Int32) {vO : va_W} {H : Heap} {locs : List Loc}, XBO G Lw a_o a_h a_im a_ke a_k a_wa a_th a_ha a_wk a_r f_x e_tl e_fd f_wd e_wn vO → va_P G.1 vwCl (vO ++ (wH ++ (wI ++ (wK ++ (wW ++ (wT ++ (wG ++ (wA ++ (wR ++ ((pl ++ pflat G Lw))))))))))) H → va_D A (vO ++ (wH ++ (wI ++ (wK ++ (wW ++ (wT ++ (wG ++ (wA ++ (wR ++ ((pl ++ pflat G Lw))))))))))) → va_S A s.heap H locs → W p l e room_1 s m #[Value.ref b] below meth c H locs cells slots Q (F0 m 637 ls [.int r]) := by
    intro r vO H locs cBO hP hD hS
    have hP := hP.perm (List.Perm.refl _)
    have hD := hD.perm (List.Perm.refl _)
    exact kk r (vO ++ (wH ++ (wI ++ (wK ++ (wW ++ (wT ++ (wG ++ (wA ++ (wR))))))))) ⟨a_h, a_im, a_ke, a_k, a_wa, a_th, a_ha, a_wk, a_r, vO, wH, wI, wK, wW, wT, wG, wA, wR, rfl, cBO, hBH, hBI, hBK, hBW, hBT, hBG, hBA, hBR⟩ (by simp only [List.append_assoc]; exact hP) (by simp only [List.append_assoc]; exact hD) hS
  replace hP := hP.perm (List.Perm.refl _)
  replace hD := hD.perm (List.Perm.refl _)
  refine xbO_elim hBO (fun a_rf a_x a_wd e_fpl e_lr f_rf hw9 hO0 hO1 hO2 => ?_)
  subst hw9
  have hP : va_P G.1 vwCl ([(a_o, (oc11 a_h a_im a_ke a_k a_wa a_th a_ha a_wk a_r a_x e_tl e_fd e_fpl a_wd e_wn a_rf e_lr)), (a_rf, (arI G 5 f_rf)), (a_x, (arI G 400 f_x)), (a_wd, (arI G 24 f_wd))] ++ (wH ++ (wI ++ (wK ++ (wW ++ (wT ++ (wG ++ (wA ++ (wR ++ ((pl ++ pflat G Lw))))))))))) H := hP
  have hD : va_D A ([(a_o, (oc11 a_h a_im a_ke a_k a_wa a_th a_ha a_wk a_r a_x e_tl e_fd e_fpl a_wd e_wn a_rf e_lr)), (a_rf, (arI G 5 f_rf)), (a_x, (arI G 400 f_x)), (a_wd, (arI G 24 f_wd))] ++ (wH ++ (wI ++ (wK ++ (wW ++ (wT ++ (wG ++ (wA ++ (wR ++ ((pl ++ pflat G Lw))))))))))) := hD
  have hPX := hP.fst
  have hDX := hD.fst
  obtain ⟨hPc, hDc, hFc⟩ := g5_sub3 (wc := [(a_o, (oc11 a_h a_im a_ke a_k a_wa a_th a_ha a_wk a_r a_x e_tl e_fd e_fpl a_wd e_wn a_rf e_lr))]) hPX hDX hS hA [0] (by decide) rfl
  refine va_calli (va_runV (As := []) (rest := []) ⟨hx, hb, hml, hown, hts⟩ (x_fault l G a_o a_h a_im a_ke a_k a_wa a_th a_ha a_wk a_r a_x a_wd a_rf H.size e_tl e_fd e_fpl e_wn e_lr hO0 hO1) (cwV 0 hts gV_L_71 rfl rfl rfl hv_X11_fault ⟨Nat.le_of_ble_eq_true rfl, Nat.le_of_ble_eq_true rfl⟩) (g5_preV hPc hK hDc hN hT hS hFc (ci := 11) (q0 := 0) rfl rfl) rfl rfl hsz rfl (lv_room (Nat.le_of_ble_eq_true rfl)) dL_law_634 (show cells + 0 ≤ 600000 ∧ slots + 0 ≤ 7302250 from ⟨by omega, by omega⟩)) hS (fun q _ h => hFc q h) hFc (fun r u t H1 locs ht hvm hw hB hz1 hk1 hS => ?_)
  obtain ⟨hP1, hD1⟩ := hB
  rw [ht] at hP1
  obtain ⟨hret, rfl⟩ := hw
  obtain ⟨hP, hD⟩ := va_joinQ (X := [(a_o, (oc11 a_h a_im a_ke a_k a_wa a_th a_ha a_wk a_r a_x e_tl e_fd e_fpl a_wd e_wn a_rf e_lr)), (a_rf, (arI G 5 f_rf)), (a_x, (arI G 400 f_x)), (a_wd, (arI G 24 f_wd))]) (wr := [(a_rf, (arI G 5 f_rf)), (a_x, (arI G 400 f_x)), (a_wd, (arI G 24 f_wd))]) (w1 := [(a_o, (oc11 a_h a_im a_ke a_k a_wa a_th a_ha a_wk a_r a_x e_tl e_fd e_fpl a_wd e_wn a_rf e_lr))]) hP hD [0] [1, 2, 3] rfl rfl (by decide +kernel) (by decide +kernel) hk1 hFc hP1 hD1
  replace hP := va_P.part (cx := [(a_o, (oc11 a_h a_im a_ke a_k a_wa a_th a_ha a_wk a_r a_x e_tl e_fd e_fpl a_wd e_wn a_rf e_lr)), (a_rf, (arI G 5 f_rf)), (a_x, (arI G 400 f_x)), (a_wd, (arI G 24 f_wd))]) hP [3, 0, 1, 2] rfl
  replace hD := va_D.part (cx := [(a_o, (oc11 a_h a_im a_ke a_k a_wa a_th a_ha a_wk a_r a_x e_tl e_fd e_fpl a_wd e_wn a_rf e_lr)), (a_rf, (arI G 5 f_rf)), (a_x, (arI G 400 f_x)), (a_wd, (arI G 24 f_wd))]) hD [3, 0, 1, 2] (by decide +kernel) rfl
  exact key r (xbO_mk a_rf a_x a_wd e_fpl e_lr f_rf (hO0) (hO1) (hO2)) hP hD hS
