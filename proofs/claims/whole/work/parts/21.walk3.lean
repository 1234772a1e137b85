theorem V_ls {G : VG} {nL pc : Nat} {X : VX} {ls ls' : VL} {st : List Value} {μ : VS} (e : ls = ls') (k : V G nL X pc ls' st μ) : V G nL X pc ls st μ := e ▸ k
/-- levels under way: of the first k hearers the new ones -/
def lvR (P : PC) (sg st nm : Nat) (cold : Bool) (lev : Nat → Nat) (w : Nat) (μ μ1 : VS) (k : Nat) : Prop := (∀ a, a ≠ w + 1 → μ1.1 a = μ.1 a) ∧ (∀ h, h < 8 → μ1.1 (w + 1) h = nI (levK P sg st nm cold lev k h)) ∧ μ1.2 = μ.2
theorem lvR.skip {P : PC} {sg st nm : Nat} {cold : Bool} {lev : Nat → Nat} {w : Nat} {μ μ1 : VS} {k : Nat} (h : lvR P sg st nm cold lev w μ μ1 k) (hp : ¬ pPres P k = true) : lvR P sg st nm cold lev w μ μ1 (k + 1) := by
  refine ⟨h.1, fun g hg => ?_, h.2.2⟩
  rw [h.2.1 g hg]
  congr 1
  unfold levK
  by_cases e : g = k
  · subst e
    rw [if_neg (by omega), if_pos (by omega)]
    unfold lev1
    rw [if_neg hp]
  · by_cases q : g < k
    · rw [if_pos q, if_pos (by omega)]
    · rw [if_neg q, if_neg (by omega)]
theorem lvR.step {P : PC} {sg st nm : Nat} {cold : Bool} {lev : Nat → Nat} {w : Nat} {μ μ1 : VS} {k : Nat} (h : lvR P sg st nm cold lev w μ μ1 k) (hp : pPres P k = true) : lvR P sg st nm cold lev w μ (vup μ1.1 (w + 1) k (nI (clampN ((lev k : Int) + dzZ P sg st nm cold k) (P 2 k))), μ1.2) (k + 1) := by
  refine ⟨fun a ha => ?_, fun g hg => ?_, h.2.2⟩
  · dsimp only
    rw [vup_row _ _ _ ha, h.1 a ha]
  · dsimp only
    rw [vup_get]
    unfold levK
    by_cases e : g = k
    · subst e
      rw [if_pos ⟨rfl, rfl⟩, if_pos (by omega)]
      unfold lev1
      rw [if_pos hp]
    · rw [if_neg (by omega), h.2.1 g hg]
      unfold levK
      by_cases q : g < k
      · rw [if_pos q, if_pos (by omega)]
      · rw [if_neg q, if_neg (by omega)]
theorem thr_pres {P : PC} {k : Nat} (hk : k < 8) (c : thr P (nI k)) : pPres P k = true := by
  obtain ⟨j2, hj2, ej2, hp2⟩ := thr_nat c
  have e2 : k = j2 := (nI_eq (by omega) (by omega)).mp ej2
  subst e2
  exact hp2
set_option maxRecDepth 100000 in
set_option maxHeartbeats 4000000 in
theorem lp_chg {G : VG} {d : Nat} {X : VX} {μ : VS} {w_ p_ sg_ st_ nm_ : Nat} {P : PC} {cold_ : Bool} {lev_ : Nat → Nat} (hX : Cx G (d + 2) yX6_changeLevels cX6_changeLevels 8 none X) (hkw : vk w_ = (5, 0)) (hkp : vk p_ = (3, 0)) (hP0 : isP μ p_ P) (hok : okP P) (hst : μ.1 w_ 2 = nI st_) (hs100 : st_ ≤ 100) (hsg : sg_ < 1000) (hnm : nm_ < 8 ∨ nm_ = 99) (hlev : ∀ h, h < 8 → lev_ h ≤ 20)  (hE : ∀ μ1, lvR P sg_ st_ nm_ cold_ lev_ w_ μ μ1 8 → V G 8 X 114 [(0, .ref w_), (1, .ref p_), (2, .int (nI sg_)), (3, .int (nmI nm_)), (4, .int (bI (cold_ = true))), (5, .int (zI (faZ sg_))), (6, .int (nI 8))] [] μ1) : ∀ (j k_ : Nat) (μ1 : VS), k_ ≤ 8 → 9 ≤ k_ + j → lvR P sg_ st_ nm_ cold_ lev_ w_ μ μ1 k_ → V G 8 X 9 [(0, .ref w_), (1, .ref p_), (2, .int (nI sg_)), (3, .int (nmI nm_)), (4, .int (bI (cold_ = true))), (5, .int (zI (faZ sg_))), (6, .int (nI k_))] [] μ1 := by
  have hap := pw_apart hkp hkw
  have hP4 := hok.2.2.2.2.1
  intro j
  induction j with
  | zero =>
    intro k_ μ1 h1 h2
    exact absurd h2 (by omega)
  | succ j ih =>
    intro k_ μ1 h1 h2 hLv
    have hP : isP μ1 p_ P := hP0.frame (fun j hj => hLv.1 _ (by omega))
    have hst1 : μ1.1 w_ 2 = nI st_ := by rw [hLv.1 w_ (by omega)]; exact hst
    refine V_iload hX dX6_changeLevels_9 6 rfl ?_
    refine V_bipush (v := nI 8) hX dX6_changeLevels_11 (by decide) ?_
    refine V_icmp_geN (tgt := 114) hX dX6_changeLevels_13 (by decide) (by omega) (by omega) (fun c13 => ?_) (fun c13 => ?_)
    · obtain rfl : k_ = 8 := by omega
      exact hE μ1 hLv
    · refine V_aload_n hX dX6_changeLevels_16 1 rfl ?_
      refine V_iload hX dX6_changeLevels_17 6 rfl ?_
      refine V_callV (As := [.int (nI k_)]) (st := []) hX mX6_94 hkp (kC_isThere hkp hP (by omega) ?_) rfl (Nat.le_of_ble_eq_true rfl) (Nat.le_of_ble_eq_true rfl) dX6_changeLevels_19
      show V G 8 X 22 [(0, .ref w_), (1, .ref p_), (2, .int (nI sg_)), (3, .int (nmI nm_)), (4, .int (bI (cold_ = true))), (5, .int (zI (faZ sg_))), (6, .int (nI k_))] [.int (bI (thr P (nI k_)))] μ1
      refine V_if_eqB (tgt := 108) hX dX6_changeLevels_22 (by decide) (fun c22 => ?_) (fun c22 => ?_)
      · refine V_iincN (n := 1) (ls' := [(0, .ref w_), (1, .ref p_), (2, .int (nI sg_)), (3, .int (nmI nm_)), (4, .int (bI (cold_ = true))), (5, .int (zI (faZ sg_))), (6, .int (nI (k_ + 1)))]) hX dX6_changeLevels_108 6 rfl (by decide) rfl ?_
        refine V_goto (tgt := 9) hX dX6_changeLevels_111 (by decide) ?_
        exact V_sub [0, 1, 2, 3, 4, 5, 6] rfl (ih (k_ + 1) _ (by omega) (by omega) (hLv.skip (fun z => c22 (thr_of (by omega) z))))
      · refine V_iload hX dX6_changeLevels_25 4 rfl ?_
        refine V_if_eqB (tgt := 35) hX dX6_changeLevels_27 (by decide) (fun c27 => ?_) (fun c27 => ?_)
        · refine V_iload hX dX6_changeLevels_35 5 rfl ?_
          refine V_aload_n hX dX6_changeLevels_37 1 rfl ?_
          refine V_getr (j := p_ + 3) hX fX6_98 hkp rfl dX6_changeLevels_38 ?_
          refine V_iload hX dX6_changeLevels_41 6 rfl ?_
          refine V_ialdN (x := nI (P 3 k_)) hX (vk_par hkp 2 (by decide)) (by omega) (by decide) (hP.2 2 (by decide) _ (by omega)) dX6_changeLevels_43 ?_
          refine V_isub hX dX6_changeLevels_44 ?_
          refine V_istore (ls' := [(0, .ref w_), (1, .ref p_), (2, .int (nI sg_)), (3, .int (nmI nm_)), (4, .int (bI (cold_ = true))), (5, .int (zI (faZ sg_))), (6, .int (nI k_)), (7, .int ((zI (faZ sg_)) - (nI (P 3 k_))))]) hX dX6_changeLevels_45 (by decide) rfl ?_
          refine V_iload_n hX dX6_changeLevels_47 2 rfl ?_
          refine V_bipush (v := nI 115) hX dX6_changeLevels_48 (by decide) ?_
          refine V_icmp_neN (tgt := 68) hX dX6_changeLevels_50 (by decide) (by omega) (by omega) (fun c50 => ?_) (fun c50 => ?_)
          · refine V_iload hX dX6_changeLevels_68 6 rfl ?_
            refine V_iload_n hX dX6_changeLevels_70 3 rfl ?_
            refine V_icmp_ne (tgt := 77) hX dX6_changeLevels_71 (by decide) (fun c71 => ?_) (fun c71 => ?_)
            · refine V_ls (ls' := [(0, .ref w_), (1, .ref p_), (2, .int (nI sg_)), (3, .int (nmI nm_)), (4, .int (bI (cold_ = true))), (5, .int (zI (faZ sg_))), (6, .int (nI k_)), (7, .int (zI (dzZ P sg_ st_ nm_ cold_ k_)))]) (by rw [show zI (dzZ P sg_ st_ nm_ cold_ k_) = (zI (faZ sg_)) - (nI (P 3 k_)) from by unfold dzZ; rw [if_neg c27, if_neg c50, if_neg (fun z => c71 ((nmI_eq (by omega) hnm).mpr z))]; simp only [zI_nat, zI_sub, zI_add, Int.sub_zero, Int.add_zero, show (5 : Int32) = zI 5 from rfl]]) ?_
              refine V_aload_n hX dX6_changeLevels_77 0 rfl ?_
              refine V_getr (j := w_ + 1) hX fX6_9 hkw rfl dX6_changeLevels_78 ?_
              refine V_iload hX dX6_changeLevels_81 6 rfl ?_
              refine V_aload_n hX dX6_changeLevels_83 0 rfl ?_
              refine V_getr (j := w_ + 1) hX fX6_9 hkw rfl dX6_changeLevels_84 ?_
              refine V_iload hX dX6_changeLevels_87 6 rfl ?_
              refine V_ialdN (x := nI (lev_ k_)) hX (vk_wlk hkw) (by omega) (by decide) ((hLv.2.1 k_ (by omega)).trans (by unfold levK; rw [if_neg (by omega)])) dX6_changeLevels_89 ?_
              refine V_iload hX dX6_changeLevels_90 7 rfl ?_
              refine V_iadd hX dX6_changeLevels_92 ?_
              rw [show (nI (lev_ k_)) + (zI (dzZ P sg_ st_ nm_ cold_ k_)) = zI ((lev_ k_ : Int) + dzZ P sg_ st_ nm_ cold_ k_) from by rw [zI_nat, zI_add]]
              refine V_iconst (v := nI 0) hX dX6_changeLevels_93 (by decide) ?_
              refine V_mmax hX mX6_105 mmax1 mmath2 mmax3 (Nat.le_of_ble_eq_true rfl) dX6_changeLevels_94 ?_
              refine V_aload_n hX dX6_changeLevels_97 1 rfl ?_
              refine V_getr (j := p_ + 2) hX fX6_52 hkp rfl dX6_changeLevels_98 ?_
              refine V_iload hX dX6_changeLevels_101 6 rfl ?_
              refine V_ialdN (x := nI (P 2 k_)) hX (vk_par hkp 1 (by decide)) (by omega) (by decide) (hP.2 1 (by decide) _ (by omega)) dX6_changeLevels_103 ?_
              refine V_mmin hX mX6_111 mmin1 mmath2 mmin3 (Nat.le_of_ble_eq_true rfl) dX6_changeLevels_104 ?_
              rw [show (if (nI (P 2 k_)) < (if (zI ((lev_ k_ : Int) + dzZ P sg_ st_ nm_ cold_ k_)) < (nI 0) then (nI 0) else (zI ((lev_ k_ : Int) + dzZ P sg_ st_ nm_ cold_ k_))) then (nI (P 2 k_)) else (if (zI ((lev_ k_ : Int) + dzZ P sg_ st_ nm_ cold_ k_)) < (nI 0) then (nI 0) else (zI ((lev_ k_ : Int) + dzZ P sg_ st_ nm_ cold_ k_)))) = nI (clampN ((lev_ k_ : Int) + dzZ P sg_ st_ nm_ cold_ k_) (P 2 k_)) from clamp_I (by have := dz_bd hok (sg := sg_) (st := st_) (nm := nm_) (cold := cold_) (h := k_) (by omega); have := hlev k_ (by omega); omega) (by have := (hok.2.2.2.2.2.2.2.1 k_ (by omega)).2.1; omega)]
              refine V_iastN hX (vk_wlk hkw) (by omega) (by decide) dX6_changeLevels_107 ?_
              show V G 8 X 108 [(0, .ref w_), (1, .ref p_), (2, .int (nI sg_)), (3, .int (nmI nm_)), (4, .int (bI (cold_ = true))), (5, .int (zI (faZ sg_))), (6, .int (nI k_)), (7, .int (zI (dzZ P sg_ st_ nm_ cold_ k_)))] [] (vup μ1.1 (w_ + 1) k_ (nI (clampN ((lev_ k_ : Int) + dzZ P sg_ st_ nm_ cold_ k_) (P 2 k_))), μ1.2)
              refine V_iincN (n := 1) (ls' := [(0, .ref w_), (1, .ref p_), (2, .int (nI sg_)), (3, .int (nmI nm_)), (4, .int (bI (cold_ = true))), (5, .int (zI (faZ sg_))), (6, .int (nI (k_ + 1))), (7, .int (zI (dzZ P sg_ st_ nm_ cold_ k_)))]) hX dX6_changeLevels_108 6 rfl (by decide) rfl ?_
              refine V_goto (tgt := 9) hX dX6_changeLevels_111 (by decide) ?_
              exact V_sub [0, 1, 2, 3, 4, 5, 6] rfl (ih (k_ + 1) _ (by omega) (by omega) (hLv.step (thr_pres (by omega) c22)))
            · refine V_iinc (v := 5) (ls' := [(0, .ref w_), (1, .ref p_), (2, .int (nI sg_)), (3, .int (nmI nm_)), (4, .int (bI (cold_ = true))), (5, .int (zI (faZ sg_))), (6, .int (nI k_)), (7, .int (((zI (faZ sg_)) - (nI (P 3 k_))) + (5)))]) hX dX6_changeLevels_74 7 rfl (by decide) (by decide) rfl ?_
              refine V_ls (ls' := [(0, .ref w_), (1, .ref p_), (2, .int (nI sg_)), (3, .int (nmI nm_)), (4, .int (bI (cold_ = true))), (5, .int (zI (faZ sg_))), (6, .int (nI k_)), (7, .int (zI (dzZ P sg_ st_ nm_ cold_ k_)))]) (by rw [show zI (dzZ P sg_ st_ nm_ cold_ k_) = ((zI (faZ sg_)) - (nI (P 3 k_))) + (5) from by unfold dzZ; rw [if_neg c27, if_neg c50, if_pos ((nmI_eq (by omega) hnm).mp c71)]; simp only [zI_nat, zI_sub, zI_add, Int.sub_zero, Int.add_zero, show (5 : Int32) = zI 5 from rfl]]) ?_
              refine V_aload_n hX dX6_changeLevels_77 0 rfl ?_
              refine V_getr (j := w_ + 1) hX fX6_9 hkw rfl dX6_changeLevels_78 ?_
              refine V_iload hX dX6_changeLevels_81 6 rfl ?_
              refine V_aload_n hX dX6_changeLevels_83 0 rfl ?_
              refine V_getr (j := w_ + 1) hX fX6_9 hkw rfl dX6_changeLevels_84 ?_
              refine V_iload hX dX6_changeLevels_87 6 rfl ?_
              refine V_ialdN (x := nI (lev_ k_)) hX (vk_wlk hkw) (by omega) (by decide) ((hLv.2.1 k_ (by omega)).trans (by unfold levK; rw [if_neg (by omega)])) dX6_changeLevels_89 ?_
              refine V_iload hX dX6_changeLevels_90 7 rfl ?_
              refine V_iadd hX dX6_changeLevels_92 ?_
              rw [show (nI (lev_ k_)) + (zI (dzZ P sg_ st_ nm_ cold_ k_)) = zI ((lev_ k_ : Int) + dzZ P sg_ st_ nm_ cold_ k_) from by rw [zI_nat, zI_add]]
              refine V_iconst (v := nI 0) hX dX6_changeLevels_93 (by decide) ?_
              refine V_mmax hX mX6_105 mmax1 mmath2 mmax3 (Nat.le_of_ble_eq_true rfl) dX6_changeLevels_94 ?_
              refine V_aload_n hX dX6_changeLevels_97 1 rfl ?_
              refine V_getr (j := p_ + 2) hX fX6_52 hkp rfl dX6_changeLevels_98 ?_
              refine V_iload hX dX6_changeLevels_101 6 rfl ?_
              refine V_ialdN (x := nI (P 2 k_)) hX (vk_par hkp 1 (by decide)) (by omega) (by decide) (hP.2 1 (by decide) _ (by omega)) dX6_changeLevels_103 ?_
              refine V_mmin hX mX6_111 mmin1 mmath2 mmin3 (Nat.le_of_ble_eq_true rfl) dX6_changeLevels_104 ?_
              rw [show (if (nI (P 2 k_)) < (if (zI ((lev_ k_ : Int) + dzZ P sg_ st_ nm_ cold_ k_)) < (nI 0) then (nI 0) else (zI ((lev_ k_ : Int) + dzZ P sg_ st_ nm_ cold_ k_))) then (nI (P 2 k_)) else (if (zI ((lev_ k_ : Int) + dzZ P sg_ st_ nm_ cold_ k_)) < (nI 0) then (nI 0) else (zI ((lev_ k_ : Int) + dzZ P sg_ st_ nm_ cold_ k_)))) = nI (clampN ((lev_ k_ : Int) + dzZ P sg_ st_ nm_ cold_ k_) (P 2 k_)) from clamp_I (by have := dz_bd hok (sg := sg_) (st := st_) (nm := nm_) (cold := cold_) (h := k_) (by omega); have := hlev k_ (by omega); omega) (by have := (hok.2.2.2.2.2.2.2.1 k_ (by omega)).2.1; omega)]
              refine V_iastN hX (vk_wlk hkw) (by omega) (by decide) dX6_changeLevels_107 ?_
              show V G 8 X 108 [(0, .ref w_), (1, .ref p_), (2, .int (nI sg_)), (3, .int (nmI nm_)), (4, .int (bI (cold_ = true))), (5, .int (zI (faZ sg_))), (6, .int (nI k_)), (7, .int (zI (dzZ P sg_ st_ nm_ cold_ k_)))] [] (vup μ1.1 (w_ + 1) k_ (nI (clampN ((lev_ k_ : Int) + dzZ P sg_ st_ nm_ cold_ k_) (P 2 k_))), μ1.2)
              refine V_iincN (n := 1) (ls' := [(0, .ref w_), (1, .ref p_), (2, .int (nI sg_)), (3, .int (nmI nm_)), (4, .int (bI (cold_ = true))), (5, .int (zI (faZ sg_))), (6, .int (nI (k_ + 1))), (7, .int (zI (dzZ P sg_ st_ nm_ cold_ k_)))]) hX dX6_changeLevels_108 6 rfl (by decide) rfl ?_
              refine V_goto (tgt := 9) hX dX6_changeLevels_111 (by decide) ?_
              exact V_sub [0, 1, 2, 3, 4, 5, 6] rfl (ih (k_ + 1) _ (by omega) (by omega) (hLv.step (thr_pres (by omega) c22)))
          · refine V_iload hX dX6_changeLevels_53 7 rfl ?_
            refine V_aload_n hX dX6_changeLevels_55 0 rfl ?_
            refine V_aload_n hX dX6_changeLevels_56 1 rfl ?_
            refine V_iload hX dX6_changeLevels_57 6 rfl ?_
            refine V_callV (As := [.ref p_, .int (nI k_)]) (st := [.int ((zI (faZ sg_)) - (nI (P 3 k_)))]) hX mX6_101 hkw (k_startled hkw hkp hP hok hst1 hs100 (by omega) ?_) rfl (Nat.le_of_ble_eq_true rfl) (Nat.le_of_ble_eq_true rfl) dX6_changeLevels_59
            show V G 8 X 62 [(0, .ref w_), (1, .ref p_), (2, .int (nI sg_)), (3, .int (nmI nm_)), (4, .int (bI (cold_ = true))), (5, .int (zI (faZ sg_))), (6, .int (nI k_)), (7, .int ((zI (faZ sg_)) - (nI (P 3 k_))))] [.int (nI (stlN P st_ k_)), .int ((zI (faZ sg_)) - (nI (P 3 k_)))] μ1
            refine V_iadd hX dX6_changeLevels_62 ?_
            refine V_istore (ls' := [(0, .ref w_), (1, .ref p_), (2, .int (nI sg_)), (3, .int (nmI nm_)), (4, .int (bI (cold_ = true))), (5, .int (zI (faZ sg_))), (6, .int (nI k_)), (7, .int (((zI (faZ sg_)) - (nI (P 3 k_))) + (nI (stlN P st_ k_))))]) hX dX6_changeLevels_63 (by decide) rfl ?_
            refine V_goto (tgt := 77) hX dX6_changeLevels_65 (by decide) ?_
            refine V_ls (ls' := [(0, .ref w_), (1, .ref p_), (2, .int (nI sg_)), (3, .int (nmI nm_)), (4, .int (bI (cold_ = true))), (5, .int (zI (faZ sg_))), (6, .int (nI k_)), (7, .int (zI (dzZ P sg_ st_ nm_ cold_ k_)))]) (by rw [show zI (dzZ P sg_ st_ nm_ cold_ k_) = ((zI (faZ sg_)) - (nI (P 3 k_))) + (nI (stlN P st_ k_)) from by unfold dzZ; rw [if_neg c27, if_pos c50]; simp only [zI_nat, zI_sub, zI_add, Int.sub_zero, Int.add_zero, show (5 : Int32) = zI 5 from rfl]]) ?_
            refine V_aload_n hX dX6_changeLevels_77 0 rfl ?_
            refine V_getr (j := w_ + 1) hX fX6_9 hkw rfl dX6_changeLevels_78 ?_
            refine V_iload hX dX6_changeLevels_81 6 rfl ?_
            refine V_aload_n hX dX6_changeLevels_83 0 rfl ?_
            refine V_getr (j := w_ + 1) hX fX6_9 hkw rfl dX6_changeLevels_84 ?_
            refine V_iload hX dX6_changeLevels_87 6 rfl ?_
            refine V_ialdN (x := nI (lev_ k_)) hX (vk_wlk hkw) (by omega) (by decide) ((hLv.2.1 k_ (by omega)).trans (by unfold levK; rw [if_neg (by omega)])) dX6_changeLevels_89 ?_
            refine V_iload hX dX6_changeLevels_90 7 rfl ?_
            refine V_iadd hX dX6_changeLevels_92 ?_
            rw [show (nI (lev_ k_)) + (zI (dzZ P sg_ st_ nm_ cold_ k_)) = zI ((lev_ k_ : Int) + dzZ P sg_ st_ nm_ cold_ k_) from by rw [zI_nat, zI_add]]
            refine V_iconst (v := nI 0) hX dX6_changeLevels_93 (by decide) ?_
            refine V_mmax hX mX6_105 mmax1 mmath2 mmax3 (Nat.le_of_ble_eq_true rfl) dX6_changeLevels_94 ?_
            refine V_aload_n hX dX6_changeLevels_97 1 rfl ?_
            refine V_getr (j := p_ + 2) hX fX6_52 hkp rfl dX6_changeLevels_98 ?_
            refine V_iload hX dX6_changeLevels_101 6 rfl ?_
            refine V_ialdN (x := nI (P 2 k_)) hX (vk_par hkp 1 (by decide)) (by omega) (by decide) (hP.2 1 (by decide) _ (by omega)) dX6_changeLevels_103 ?_
            refine V_mmin hX mX6_111 mmin1 mmath2 mmin3 (Nat.le_of_ble_eq_true rfl) dX6_changeLevels_104 ?_
            rw [show (if (nI (P 2 k_)) < (if (zI ((lev_ k_ : Int) + dzZ P sg_ st_ nm_ cold_ k_)) < (nI 0) then (nI 0) else (zI ((lev_ k_ : Int) + dzZ P sg_ st_ nm_ cold_ k_))) then (nI (P 2 k_)) else (if (zI ((lev_ k_ : Int) + dzZ P sg_ st_ nm_ cold_ k_)) < (nI 0) then (nI 0) else (zI ((lev_ k_ : Int) + dzZ P sg_ st_ nm_ cold_ k_)))) = nI (clampN ((lev_ k_ : Int) + dzZ P sg_ st_ nm_ cold_ k_) (P 2 k_)) from clamp_I (by have := dz_bd hok (sg := sg_) (st := st_) (nm := nm_) (cold := cold_) (h := k_) (by omega); have := hlev k_ (by omega); omega) (by have := (hok.2.2.2.2.2.2.2.1 k_ (by omega)).2.1; omega)]
            refine V_iastN hX (vk_wlk hkw) (by omega) (by decide) dX6_changeLevels_107 ?_
            show V G 8 X 108 [(0, .ref w_), (1, .ref p_), (2, .int (nI sg_)), (3, .int (nmI nm_)), (4, .int (bI (cold_ = true))), (5, .int (zI (faZ sg_))), (6, .int (nI k_)), (7, .int (zI (dzZ P sg_ st_ nm_ cold_ k_)))] [] (vup μ1.1 (w_ + 1) k_ (nI (clampN ((lev_ k_ : Int) + dzZ P sg_ st_ nm_ cold_ k_) (P 2 k_))), μ1.2)
            refine V_iincN (n := 1) (ls' := [(0, .ref w_), (1, .ref p_), (2, .int (nI sg_)), (3, .int (nmI nm_)), (4, .int (bI (cold_ = true))), (5, .int (zI (faZ sg_))), (6, .int (nI (k_ + 1))), (7, .int (zI (dzZ P sg_ st_ nm_ cold_ k_)))]) hX dX6_changeLevels_108 6 rfl (by decide) rfl ?_
            refine V_goto (tgt := 9) hX dX6_changeLevels_111 (by decide) ?_
            exact V_sub [0, 1, 2, 3, 4, 5, 6] rfl (ih (k_ + 1) _ (by omega) (by omega) (hLv.step (thr_pres (by omega) c22)))
        · refine V_iload hX dX6_changeLevels_30 5 rfl ?_
          refine V_goto (tgt := 45) hX dX6_changeLevels_32 (by decide) ?_
          refine V_istore (ls' := [(0, .ref w_), (1, .ref p_), (2, .int (nI sg_)), (3, .int (nmI nm_)), (4, .int (bI (cold_ = true))), (5, .int (zI (faZ sg_))), (6, .int (nI k_)), (7, .int (zI (faZ sg_)))]) hX dX6_changeLevels_45 (by decide) rfl ?_
          refine V_iload_n hX dX6_changeLevels_47 2 rfl ?_
          refine V_bipush (v := nI 115) hX dX6_changeLevels_48 (by decide) ?_
          refine V_icmp_neN (tgt := 68) hX dX6_changeLevels_50 (by decide) (by omega) (by omega) (fun c50 => ?_) (fun c50 => ?_)
          · refine V_iload hX dX6_changeLevels_68 6 rfl ?_
            refine V_iload_n hX dX6_changeLevels_70 3 rfl ?_
            refine V_icmp_ne (tgt := 77) hX dX6_changeLevels_71 (by decide) (fun c71 => ?_) (fun c71 => ?_)
            · refine V_ls (ls' := [(0, .ref w_), (1, .ref p_), (2, .int (nI sg_)), (3, .int (nmI nm_)), (4, .int (bI (cold_ = true))), (5, .int (zI (faZ sg_))), (6, .int (nI k_)), (7, .int (zI (dzZ P sg_ st_ nm_ cold_ k_)))]) (by rw [show zI (dzZ P sg_ st_ nm_ cold_ k_) = zI (faZ sg_) from by unfold dzZ; rw [if_pos c27, if_neg c50, if_neg (fun z => c71 ((nmI_eq (by omega) hnm).mpr z))]; simp only [zI_nat, zI_sub, zI_add, Int.sub_zero, Int.add_zero, show (5 : Int32) = zI 5 from rfl]]) ?_
              refine V_aload_n hX dX6_changeLevels_77 0 rfl ?_
              refine V_getr (j := w_ + 1) hX fX6_9 hkw rfl dX6_changeLevels_78 ?_
              refine V_iload hX dX6_changeLevels_81 6 rfl ?_
              refine V_aload_n hX dX6_changeLevels_83 0 rfl ?_
              refine V_getr (j := w_ + 1) hX fX6_9 hkw rfl dX6_changeLevels_84 ?_
              refine V_iload hX dX6_changeLevels_87 6 rfl ?_
              refine V_ialdN (x := nI (lev_ k_)) hX (vk_wlk hkw) (by omega) (by decide) ((hLv.2.1 k_ (by omega)).trans (by unfold levK; rw [if_neg (by omega)])) dX6_changeLevels_89 ?_
              refine V_iload hX dX6_changeLevels_90 7 rfl ?_
              refine V_iadd hX dX6_changeLevels_92 ?_
              rw [show (nI (lev_ k_)) + (zI (dzZ P sg_ st_ nm_ cold_ k_)) = zI ((lev_ k_ : Int) + dzZ P sg_ st_ nm_ cold_ k_) from by rw [zI_nat, zI_add]]
              refine V_iconst (v := nI 0) hX dX6_changeLevels_93 (by decide) ?_
              refine V_mmax hX mX6_105 mmax1 mmath2 mmax3 (Nat.le_of_ble_eq_true rfl) dX6_changeLevels_94 ?_
              refine V_aload_n hX dX6_changeLevels_97 1 rfl ?_
              refine V_getr (j := p_ + 2) hX fX6_52 hkp rfl dX6_changeLevels_98 ?_
              refine V_iload hX dX6_changeLevels_101 6 rfl ?_
              refine V_ialdN (x := nI (P 2 k_)) hX (vk_par hkp 1 (by decide)) (by omega) (by decide) (hP.2 1 (by decide) _ (by omega)) dX6_changeLevels_103 ?_
              refine V_mmin hX mX6_111 mmin1 mmath2 mmin3 (Nat.le_of_ble_eq_true rfl) dX6_changeLevels_104 ?_
              rw [show (if (nI (P 2 k_)) < (if (zI ((lev_ k_ : Int) + dzZ P sg_ st_ nm_ cold_ k_)) < (nI 0) then (nI 0) else (zI ((lev_ k_ : Int) + dzZ P sg_ st_ nm_ cold_ k_))) then (nI (P 2 k_)) else (if (zI ((lev_ k_ : Int) + dzZ P sg_ st_ nm_ cold_ k_)) < (nI 0) then (nI 0) else (zI ((lev_ k_ : Int) + dzZ P sg_ st_ nm_ cold_ k_)))) = nI (clampN ((lev_ k_ : Int) + dzZ P sg_ st_ nm_ cold_ k_) (P 2 k_)) from clamp_I (by have := dz_bd hok (sg := sg_) (st := st_) (nm := nm_) (cold := cold_) (h := k_) (by omega); have := hlev k_ (by omega); omega) (by have := (hok.2.2.2.2.2.2.2.1 k_ (by omega)).2.1; omega)]
              refine V_iastN hX (vk_wlk hkw) (by omega) (by decide) dX6_changeLevels_107 ?_
              show V G 8 X 108 [(0, .ref w_), (1, .ref p_), (2, .int (nI sg_)), (3, .int (nmI nm_)), (4, .int (bI (cold_ = true))), (5, .int (zI (faZ sg_))), (6, .int (nI k_)), (7, .int (zI (dzZ P sg_ st_ nm_ cold_ k_)))] [] (vup μ1.1 (w_ + 1) k_ (nI (clampN ((lev_ k_ : Int) + dzZ P sg_ st_ nm_ cold_ k_) (P 2 k_))), μ1.2)
              refine V_iincN (n := 1) (ls' := [(0, .ref w_), (1, .ref p_), (2, .int (nI sg_)), (3, .int (nmI nm_)), (4, .int (bI (cold_ = true))), (5, .int (zI (faZ sg_))), (6, .int (nI (k_ + 1))), (7, .int (zI (dzZ P sg_ st_ nm_ cold_ k_)))]) hX dX6_changeLevels_108 6 rfl (by decide) rfl ?_
              refine V_goto (tgt := 9) hX dX6_changeLevels_111 (by decide) ?_
              exact V_sub [0, 1, 2, 3, 4, 5, 6] rfl (ih (k_ + 1) _ (by omega) (by omega) (hLv.step (thr_pres (by omega) c22)))
            · refine V_iinc (v := 5) (ls' := [(0, .ref w_), (1, .ref p_), (2, .int (nI sg_)), (3, .int (nmI nm_)), (4, .int (bI (cold_ = true))), (5, .int (zI (faZ sg_))), (6, .int (nI k_)), (7, .int ((zI (faZ sg_)) + (5)))]) hX dX6_changeLevels_74 7 rfl (by decide) (by decide) rfl ?_
              refine V_ls (ls' := [(0, .ref w_), (1, .ref p_), (2, .int (nI sg_)), (3, .int (nmI nm_)), (4, .int (bI (cold_ = true))), (5, .int (zI (faZ sg_))), (6, .int (nI k_)), (7, .int (zI (dzZ P sg_ st_ nm_ cold_ k_)))]) (by rw [show zI (dzZ P sg_ st_ nm_ cold_ k_) = (zI (faZ sg_)) + (5) from by unfold dzZ; rw [if_pos c27, if_neg c50, if_pos ((nmI_eq (by omega) hnm).mp c71)]; simp only [zI_nat, zI_sub, zI_add, Int.sub_zero, Int.add_zero, show (5 : Int32) = zI 5 from rfl]]) ?_
              refine V_aload_n hX dX6_changeLevels_77 0 rfl ?_
              refine V_getr (j := w_ + 1) hX fX6_9 hkw rfl dX6_changeLevels_78 ?_
              refine V_iload hX dX6_changeLevels_81 6 rfl ?_
              refine V_aload_n hX dX6_changeLevels_83 0 rfl ?_
              refine V_getr (j := w_ + 1) hX fX6_9 hkw rfl dX6_changeLevels_84 ?_
              refine V_iload hX dX6_changeLevels_87 6 rfl ?_
              refine V_ialdN (x := nI (lev_ k_)) hX (vk_wlk hkw) (by omega) (by decide) ((hLv.2.1 k_ (by omega)).trans (by unfold levK; rw [if_neg (by omega)])) dX6_changeLevels_89 ?_
              refine V_iload hX dX6_changeLevels_90 7 rfl ?_
              refine V_iadd hX dX6_changeLevels_92 ?_
              rw [show (nI (lev_ k_)) + (zI (dzZ P sg_ st_ nm_ cold_ k_)) = zI ((lev_ k_ : Int) + dzZ P sg_ st_ nm_ cold_ k_) from by rw [zI_nat, zI_add]]
              refine V_iconst (v := nI 0) hX dX6_changeLevels_93 (by decide) ?_
              refine V_mmax hX mX6_105 mmax1 mmath2 mmax3 (Nat.le_of_ble_eq_true rfl) dX6_changeLevels_94 ?_
              refine V_aload_n hX dX6_changeLevels_97 1 rfl ?_
              refine V_getr (j := p_ + 2) hX fX6_52 hkp rfl dX6_changeLevels_98 ?_
              refine V_iload hX dX6_changeLevels_101 6 rfl ?_
              refine V_ialdN (x := nI (P 2 k_)) hX (vk_par hkp 1 (by decide)) (by omega) (by decide) (hP.2 1 (by decide) _ (by omega)) dX6_changeLevels_103 ?_
              refine V_mmin hX mX6_111 mmin1 mmath2 mmin3 (Nat.le_of_ble_eq_true rfl) dX6_changeLevels_104 ?_
              rw [show (if (nI (P 2 k_)) < (if (zI ((lev_ k_ : Int) + dzZ P sg_ st_ nm_ cold_ k_)) < (nI 0) then (nI 0) else (zI ((lev_ k_ : Int) + dzZ P sg_ st_ nm_ cold_ k_))) then (nI (P 2 k_)) else (if (zI ((lev_ k_ : Int) + dzZ P sg_ st_ nm_ cold_ k_)) < (nI 0) then (nI 0) else (zI ((lev_ k_ : Int) + dzZ P sg_ st_ nm_ cold_ k_)))) = nI (clampN ((lev_ k_ : Int) + dzZ P sg_ st_ nm_ cold_ k_) (P 2 k_)) from clamp_I (by have := dz_bd hok (sg := sg_) (st := st_) (nm := nm_) (cold := cold_) (h := k_) (by omega); have := hlev k_ (by omega); omega) (by have := (hok.2.2.2.2.2.2.2.1 k_ (by omega)).2.1; omega)]
              refine V_iastN hX (vk_wlk hkw) (by omega) (by decide) dX6_changeLevels_107 ?_
              show V G 8 X 108 [(0, .ref w_), (1, .ref p_), (2, .int (nI sg_)), (3, .int (nmI nm_)), (4, .int (bI (cold_ = true))), (5, .int (zI (faZ sg_))), (6, .int (nI k_)), (7, .int (zI (dzZ P sg_ st_ nm_ cold_ k_)))] [] (vup μ1.1 (w_ + 1) k_ (nI (clampN ((lev_ k_ : Int) + dzZ P sg_ st_ nm_ cold_ k_) (P 2 k_))), μ1.2)
              refine V_iincN (n := 1) (ls' := [(0, .ref w_), (1, .ref p_), (2, .int (nI sg_)), (3, .int (nmI nm_)), (4, .int (bI (cold_ = true))), (5, .int (zI (faZ sg_))), (6, .int (nI (k_ + 1))), (7, .int (zI (dzZ P sg_ st_ nm_ cold_ k_)))]) hX dX6_changeLevels_108 6 rfl (by decide) rfl ?_
              refine V_goto (tgt := 9) hX dX6_changeLevels_111 (by decide) ?_
              exact V_sub [0, 1, 2, 3, 4, 5, 6] rfl (ih (k_ + 1) _ (by omega) (by omega) (hLv.step (thr_pres (by omega) c22)))
          · refine V_iload hX dX6_changeLevels_53 7 rfl ?_
            refine V_aload_n hX dX6_changeLevels_55 0 rfl ?_
            refine V_aload_n hX dX6_changeLevels_56 1 rfl ?_
            refine V_iload hX dX6_changeLevels_57 6 rfl ?_
            refine V_callV (As := [.ref p_, .int (nI k_)]) (st := [.int (zI (faZ sg_))]) hX mX6_101 hkw (k_startled hkw hkp hP hok hst1 hs100 (by omega) ?_) rfl (Nat.le_of_ble_eq_true rfl) (Nat.le_of_ble_eq_true rfl) dX6_changeLevels_59
            show V G 8 X 62 [(0, .ref w_), (1, .ref p_), (2, .int (nI sg_)), (3, .int (nmI nm_)), (4, .int (bI (cold_ = true))), (5, .int (zI (faZ sg_))), (6, .int (nI k_)), (7, .int (zI (faZ sg_)))] [.int (nI (stlN P st_ k_)), .int (zI (faZ sg_))] μ1
            refine V_iadd hX dX6_changeLevels_62 ?_
            refine V_istore (ls' := [(0, .ref w_), (1, .ref p_), (2, .int (nI sg_)), (3, .int (nmI nm_)), (4, .int (bI (cold_ = true))), (5, .int (zI (faZ sg_))), (6, .int (nI k_)), (7, .int ((zI (faZ sg_)) + (nI (stlN P st_ k_))))]) hX dX6_changeLevels_63 (by decide) rfl ?_
            refine V_goto (tgt := 77) hX dX6_changeLevels_65 (by decide) ?_
            refine V_ls (ls' := [(0, .ref w_), (1, .ref p_), (2, .int (nI sg_)), (3, .int (nmI nm_)), (4, .int (bI (cold_ = true))), (5, .int (zI (faZ sg_))), (6, .int (nI k_)), (7, .int (zI (dzZ P sg_ st_ nm_ cold_ k_)))]) (by rw [show zI (dzZ P sg_ st_ nm_ cold_ k_) = (zI (faZ sg_)) + (nI (stlN P st_ k_)) from by unfold dzZ; rw [if_pos c27, if_pos c50]; simp only [zI_nat, zI_sub, zI_add, Int.sub_zero, Int.add_zero, show (5 : Int32) = zI 5 from rfl]]) ?_
            refine V_aload_n hX dX6_changeLevels_77 0 rfl ?_
            refine V_getr (j := w_ + 1) hX fX6_9 hkw rfl dX6_changeLevels_78 ?_
            refine V_iload hX dX6_changeLevels_81 6 rfl ?_
            refine V_aload_n hX dX6_changeLevels_83 0 rfl ?_
            refine V_getr (j := w_ + 1) hX fX6_9 hkw rfl dX6_changeLevels_84 ?_
            refine V_iload hX dX6_changeLevels_87 6 rfl ?_
            refine V_ialdN (x := nI (lev_ k_)) hX (vk_wlk hkw) (by omega) (by decide) ((hLv.2.1 k_ (by omega)).trans (by unfold levK; rw [if_neg (by omega)])) dX6_changeLevels_89 ?_
            refine V_iload hX dX6_changeLevels_90 7 rfl ?_
            refine V_iadd hX dX6_changeLevels_92 ?_
            rw [show (nI (lev_ k_)) + (zI (dzZ P sg_ st_ nm_ cold_ k_)) = zI ((lev_ k_ : Int) + dzZ P sg_ st_ nm_ cold_ k_) from by rw [zI_nat, zI_add]]
            refine V_iconst (v := nI 0) hX dX6_changeLevels_93 (by decide) ?_
            refine V_mmax hX mX6_105 mmax1 mmath2 mmax3 (Nat.le_of_ble_eq_true rfl) dX6_changeLevels_94 ?_
            refine V_aload_n hX dX6_changeLevels_97 1 rfl ?_
            refine V_getr (j := p_ + 2) hX fX6_52 hkp rfl dX6_changeLevels_98 ?_
            refine V_iload hX dX6_changeLevels_101 6 rfl ?_
            refine V_ialdN (x := nI (P 2 k_)) hX (vk_par hkp 1 (by decide)) (by omega) (by decide) (hP.2 1 (by decide) _ (by omega)) dX6_changeLevels_103 ?_
            refine V_mmin hX mX6_111 mmin1 mmath2 mmin3 (Nat.le_of_ble_eq_true rfl) dX6_changeLevels_104 ?_
            rw [show (if (nI (P 2 k_)) < (if (zI ((lev_ k_ : Int) + dzZ P sg_ st_ nm_ cold_ k_)) < (nI 0) then (nI 0) else (zI ((lev_ k_ : Int) + dzZ P sg_ st_ nm_ cold_ k_))) then (nI (P 2 k_)) else (if (zI ((lev_ k_ : Int) + dzZ P sg_ st_ nm_ cold_ k_)) < (nI 0) then (nI 0) else (zI ((lev_ k_ : Int) + dzZ P sg_ st_ nm_ cold_ k_)))) = nI (clampN ((lev_ k_ : Int) + dzZ P sg_ st_ nm_ cold_ k_) (P 2 k_)) from clamp_I (by have := dz_bd hok (sg := sg_) (st := st_) (nm := nm_) (cold := cold_) (h := k_) (by omega); have := hlev k_ (by omega); omega) (by have := (hok.2.2.2.2.2.2.2.1 k_ (by omega)).2.1; omega)]
            refine V_iastN hX (vk_wlk hkw) (by omega) (by decide) dX6_changeLevels_107 ?_
            show V G 8 X 108 [(0, .ref w_), (1, .ref p_), (2, .int (nI sg_)), (3, .int (nmI nm_)), (4, .int (bI (cold_ = true))), (5, .int (zI (faZ sg_))), (6, .int (nI k_)), (7, .int (zI (dzZ P sg_ st_ nm_ cold_ k_)))] [] (vup μ1.1 (w_ + 1) k_ (nI (clampN ((lev_ k_ : Int) + dzZ P sg_ st_ nm_ cold_ k_) (P 2 k_))), μ1.2)
            refine V_iincN (n := 1) (ls' := [(0, .ref w_), (1, .ref p_), (2, .int (nI sg_)), (3, .int (nmI nm_)), (4, .int (bI (cold_ = true))), (5, .int (zI (faZ sg_))), (6, .int (nI (k_ + 1))), (7, .int (zI (dzZ P sg_ st_ nm_ cold_ k_)))]) hX dX6_changeLevels_108 6 rfl (by decide) rfl ?_
            refine V_goto (tgt := 9) hX dX6_changeLevels_111 (by decide) ?_
            exact V_sub [0, 1, 2, 3, 4, 5, 6] rfl (ih (k_ + 1) _ (by omega) (by omega) (hLv.step (thr_pres (by omega) c22)))
set_option maxRecDepth 100000 in
set_option maxHeartbeats 4000000 in
theorem k_changeLevels {G : VG} {d : Nat} {μ : VS} {Q : Option Value → VS → Prop} {w_ p_ sg_ st_ nm_ : Nat} {P : PC} {cold_ : Bool} {lev_ : Nat → Nat} (hkw : vk w_ = (5, 0)) (hkp : vk p_ = (3, 0)) (hP0 : isP μ p_ P) (hok : okP P) (hst : μ.1 w_ 2 = nI st_) (hs100 : st_ ≤ 100) (hsg : sg_ < 1000) (hnm : nm_ < 8 ∨ nm_ = 99) (hlev : ∀ h, h < 8 → lev_ h ≤ 20) (hl : ∀ h, h < 8 → μ.1 (w_ + 1) h = nI (lev_ h)) (hQ : ∀ μ', (∀ a, a ≠ w_ + 1 → μ'.1 a = μ.1 a) → (∀ h, h < 8 → μ'.1 (w_ + 1) h = nI (lev1 P sg_ st_ nm_ cold_ lev_ h)) → μ'.2 = μ.2 → Q none μ') : Call G (d + 2) yX6_changeLevels cX6_changeLevels 8 none [.ref w_, .ref p_, .int (nI sg_), .int (nmI nm_), .int (bI (cold_ = true))] μ Q := by
  intro X hX hR
  show V G 8 X 0 [(0, .ref w_), (1, .ref p_), (2, .int (nI sg_)), (3, .int (nmI nm_)), (4, .int (bI (cold_ = true)))] [] μ
  refine V_iload_n hX dX6_changeLevels_0 2 rfl ?_
  refine V_callS (As := [.int (nI sg_)]) (st := []) hX mX6_91 (k_forAll (by omega) ?_) rfl (Nat.le_of_ble_eq_true rfl) (Nat.le_of_ble_eq_true rfl) dX6_changeLevels_1
  show V G 8 X 4 [(0, .ref w_), (1, .ref p_), (2, .int (nI sg_)), (3, .int (nmI nm_)), (4, .int (bI (cold_ = true)))] [.int (zI (faZ sg_))] μ
  refine V_istore (ls' := [(0, .ref w_), (1, .ref p_), (2, .int (nI sg_)), (3, .int (nmI nm_)), (4, .int (bI (cold_ = true))), (5, .int (zI (faZ sg_)))]) hX dX6_changeLevels_4 (by decide) rfl ?_
  refine V_iconst (v := nI 0) hX dX6_changeLevels_6 (by decide) ?_
  refine V_istore (ls' := [(0, .ref w_), (1, .ref p_), (2, .int (nI sg_)), (3, .int (nmI nm_)), (4, .int (bI (cold_ = true))), (5, .int (zI (faZ sg_))), (6, .int (nI 0))]) hX dX6_changeLevels_7 (by decide) rfl ?_
  refine lp_chg hX hkw hkp hP0 hok hst hs100 hsg hnm hlev (fun μ1 hLv => ?_) 9 0 μ (by decide) (by decide) ⟨fun _ _ => rfl, fun h hh => by rw [hl h hh]; unfold levK; rw [if_neg (by omega)], rfl⟩
  refine V_vret hX rfl dX6_changeLevels_114 ?_
  exact hR _ _ (hQ μ1 hLv.1 (fun h hh => by rw [hLv.2.1 h hh]; unfold levK; rw [if_pos hh]) hLv.2.2)
