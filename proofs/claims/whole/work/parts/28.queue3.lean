theorem c_isPossible (l : Launch) {w : MW} {q : Nat} {Q : QU} (hq : q + 8 < w.1) (hn : (Q 0).1 ≤ 30) {cmd : Nat} (hc : cmd < 6) {hd ky : Int32} : Ct l (.code yX5_isPossible cX5_isPossible 4 (some .boolean)) yX5_isPossible 4 0 0 [.ref q, .int (nI cmd), .int hd, .int ky] (quW w q Q) (.inl (some (.int (bI (posB Q cmd hd ky))))) (quW w q Q) := by
  refine ct_of (by decide +kernel) (Nat.le_of_ble_eq_true rfl) ?_
  rcases (show cmd = 0 ∨ cmd = 1 ∨ cmd = 2 ∨ cmd = 3 ∨ cmd = 4 ∨ cmd = 5 by omega) with rfl | rfl | rfl | rfl | rfl | rfl
  · skip
    refine go_iload_n dX5_isPossible_0 rfl ?_
    refine go_tblIn 40 dX5_isPossible_1 (by decide) (by decide) rfl (by decide) ?_
    refine go_iload_n dX5_isPossible_40 rfl ?_
    refine go_stat1 dX5_isPossible_41 (c_isKey l) s_X5_102 kc_X7_isKey rfl rfl (Nat.le_of_ble_eq_true rfl) (Nat.le_of_ble_eq_true rfl) (Nat.le_of_ble_eq_true rfl) ?_
    refine go_if_eq 60 dX5_isPossible_44 (by decide) (fun q44 => ?_) (fun q44 => ?_)
    · rw [show posB Q 0 hd ky = false from by simp [posB, bI_eq.mp q44]]
      refine go_iconst 0 dX5_isPossible_60 (by decide) ?_
      exact go_ireturn dX5_isPossible_61 rfl (by decide)
    · refine go_aload_n dX5_isPossible_47 rfl ?_
      refine go_virt1 dX5_isPossible_48 (c_itemCount l hq) v_X5_105_4 rfl (quW_ob hq) rfl (Nat.le_of_ble_eq_true rfl) (Nat.le_of_ble_eq_true rfl) (Nat.le_of_ble_eq_true rfl) ?_
      refine go_bipush 30 dX5_isPossible_51 (by decide) ?_
      refine go_icmp_ge 60 dX5_isPossible_53 (by decide) (fun q53 => ?_) (fun q53 => ?_)
      · have z := n_le' (a := 30) q53 (by decide) (by omega)
        rw [show posB Q 0 hd ky = false from by simp [posB]; omega]
        refine go_iconst 0 dX5_isPossible_60 (by decide) ?_
        exact go_ireturn dX5_isPossible_61 rfl (by decide)
      · have z := n_lt' (b := 30) q53 (by omega)
        rw [show posB Q 0 hd ky = true from by simp [posB, bI_ne.mp q44, z]]
        refine go_iconst 1 dX5_isPossible_56 (by decide) ?_
        refine go_goto 61 dX5_isPossible_57 (by decide) ?_
        exact go_ireturn dX5_isPossible_61 rfl (by decide)
  · skip
    refine go_iload_n dX5_isPossible_0 rfl ?_
    refine go_tblIn 62 dX5_isPossible_1 (by decide) (by decide) rfl (by decide) ?_
    refine go_aload_n dX5_isPossible_62 rfl ?_
    refine go_virt1 dX5_isPossible_63 (c_itemCount l hq) v_X5_105_4 rfl (quW_ob hq) rfl (Nat.le_of_ble_eq_true rfl) (Nat.le_of_ble_eq_true rfl) (Nat.le_of_ble_eq_true rfl) ?_
    refine go_if_le 73 dX5_isPossible_66 (by decide) (fun q66 => ?_) (fun q66 => ?_)
    · have z := n_le' (b := 0) q66 (by omega) (by decide)
      rw [show posB Q 1 hd ky = false from by simp [posB]; omega]
      refine go_iconst 0 dX5_isPossible_73 (by decide) ?_
      exact go_ireturn dX5_isPossible_74 rfl (by decide)
    · have z := n_lt' (a := 0) q66 (by decide)
      rw [show posB Q 1 hd ky = true from by simp [posB, z]]
      refine go_iconst 1 dX5_isPossible_69 (by decide) ?_
      refine go_goto 74 dX5_isPossible_70 (by decide) ?_
      exact go_ireturn dX5_isPossible_74 rfl (by decide)
  · skip
    refine go_iload_n dX5_isPossible_0 rfl ?_
    refine go_tblIn 62 dX5_isPossible_1 (by decide) (by decide) rfl (by decide) ?_
    refine go_aload_n dX5_isPossible_62 rfl ?_
    refine go_virt1 dX5_isPossible_63 (c_itemCount l hq) v_X5_105_4 rfl (quW_ob hq) rfl (Nat.le_of_ble_eq_true rfl) (Nat.le_of_ble_eq_true rfl) (Nat.le_of_ble_eq_true rfl) ?_
    refine go_if_le 73 dX5_isPossible_66 (by decide) (fun q66 => ?_) (fun q66 => ?_)
    · have z := n_le' (b := 0) q66 (by omega) (by decide)
      rw [show posB Q 2 hd ky = false from by simp [posB]; omega]
      refine go_iconst 0 dX5_isPossible_73 (by decide) ?_
      exact go_ireturn dX5_isPossible_74 rfl (by decide)
    · have z := n_lt' (a := 0) q66 (by decide)
      rw [show posB Q 2 hd ky = true from by simp [posB, z]]
      refine go_iconst 1 dX5_isPossible_69 (by decide) ?_
      refine go_goto 74 dX5_isPossible_70 (by decide) ?_
      exact go_ireturn dX5_isPossible_74 rfl (by decide)
  · skip
    refine go_iload_n dX5_isPossible_0 rfl ?_
    refine go_tblIn 75 dX5_isPossible_1 (by decide) (by decide) rfl (by decide) ?_
    refine go_aload_n dX5_isPossible_75 rfl ?_
    refine go_iload_n dX5_isPossible_76 rfl ?_
    refine go_virt1 dX5_isPossible_77 (c_has l hq hn) v_X5_75_4 rfl (quW_ob hq) rfl (Nat.le_of_ble_eq_true rfl) (Nat.le_of_ble_eq_true rfl) (Nat.le_of_ble_eq_true rfl) ?_
    rw [show posB Q 3 hd ky = hasB Q hd from by simp [posB]]
    exact go_ireturn dX5_isPossible_80 rfl (by cases hasB Q hd <;> decide)
  · skip
    refine go_iload_n dX5_isPossible_0 rfl ?_
    refine go_tblIn 102 dX5_isPossible_1 (by decide) (by decide) rfl (by decide) ?_
    refine go_iload_n dX5_isPossible_102 rfl ?_
    refine go_iconst 4 dX5_isPossible_103 (by decide) ?_
    refine go_icmp_ne_f 111 dX5_isPossible_104 (by decide) (rfl) ?_
    rw [show posB Q 4 hd ky = true from by simp [posB]]
    refine go_iconst 1 dX5_isPossible_107 (by decide) ?_
    refine go_goto 112 dX5_isPossible_108 (by decide) ?_
    exact go_ireturn dX5_isPossible_112 rfl (by decide)
  · skip
    refine go_iload_n dX5_isPossible_0 rfl ?_
    refine go_tblIn 81 dX5_isPossible_1 (by decide) (by decide) rfl (by decide) ?_
    refine go_aload_n dX5_isPossible_81 rfl ?_
    refine go_iload_n dX5_isPossible_82 rfl ?_
    refine go_virt1 dX5_isPossible_83 (c_has l hq hn) v_X5_75_4 rfl (quW_ob hq) rfl (Nat.le_of_ble_eq_true rfl) (Nat.le_of_ble_eq_true rfl) (Nat.le_of_ble_eq_true rfl) ?_
    refine go_if_eq 100 dX5_isPossible_86 (by decide) (fun q86 => ?_) (fun q86 => ?_)
    · rw [show posB Q 5 hd ky = false from by simp [posB, bI_eq.mp q86]]
      refine go_iconst 0 dX5_isPossible_100 (by decide) ?_
      exact go_ireturn dX5_isPossible_101 rfl (by decide)
    · refine go_iload_n dX5_isPossible_89 rfl ?_
      refine go_stat1 dX5_isPossible_90 (c_isKey l) s_X5_102 kc_X7_isKey rfl rfl (Nat.le_of_ble_eq_true rfl) (Nat.le_of_ble_eq_true rfl) (Nat.le_of_ble_eq_true rfl) ?_
      refine go_if_eq 100 dX5_isPossible_93 (by decide) (fun q93 => ?_) (fun q93 => ?_)
      · rw [show posB Q 5 hd ky = false from by simp [posB, bI_eq.mp q93]]
        refine go_iconst 0 dX5_isPossible_100 (by decide) ?_
        exact go_ireturn dX5_isPossible_101 rfl (by decide)
      · rw [show posB Q 5 hd ky = true from by simp [posB, bI_ne.mp q86, bI_ne.mp q93]]
        refine go_iconst 1 dX5_isPossible_96 (by decide) ?_
        refine go_goto 101 dX5_isPossible_97 (by decide) ?_
        exact go_ireturn dX5_isPossible_101 rfl (by decide)
theorem cfgU_n {Q : QU} {k : Nat} : (cfgU Q k).1 = (Q k).1 := by
  unfold cfgU
  by_cases e : k = 1
  · subst e; simp [va_up]
  · simp [va_up, e]
theorem cfgU_f {Q : QU} {k : Nat} : (cfgU Q k).2.1 = (Q k).2.1 := by
  unfold cfgU
  by_cases e : k = 1
  · subst e; simp [va_up]
  · simp [va_up, e]
theorem grtV_cfg {Q : QU} : grtV (cfgU Q) 0 = grtV Q 0 := by simp only [grtV, cfgU_n, cfgU_f]
def crySt (Q : QU) (cmd : Nat) (hd ky : Int32) : QU := if posB Q cmd hd ky then cryQ Q cmd hd ky else Q
theorem c_carryOut (l : Launch) {w : MW} {q : Nat} {Q : QU} (hq : q + 8 < w.1) (hI : qI Q) {cmd : Nat} (hc : cmd < 6) {hd ky : Int32} : Ct l (.code yX5_carryOut cX5_carryOut 4 (some .boolean)) yX5_carryOut 6 0 0 [.ref q, .int (nI cmd), .int hd, .int ky] (quW w q Q) (.inl (some (.int (bI (posB Q cmd hd ky))))) (quW w q (crySt Q cmd hd ky)) := by
  refine ct_of (by decide +kernel) (Nat.le_of_ble_eq_true rfl) ?_
  rcases (show cmd = 0 ∨ cmd = 1 ∨ cmd = 2 ∨ cmd = 3 ∨ cmd = 4 ∨ cmd = 5 by omega) with rfl | rfl | rfl | rfl | rfl | rfl
  · cases hp : posB Q 0 hd ky
    · rw [show crySt Q 0 hd ky = Q from by unfold crySt; rw [hp]; rfl]
      refine go_aload_n dX5_carryOut_0 rfl ?_
      refine go_iload_n dX5_carryOut_1 rfl ?_
      refine go_iload_n dX5_carryOut_2 rfl ?_
      refine go_iload_n dX5_carryOut_3 rfl ?_
      refine go_virt1 dX5_carryOut_4 (c_isPossible l hq hI.2.1 (by decide)) v_X5_108_4 rfl (quW_ob hq) rfl (Nat.le_of_ble_eq_true rfl) (Nat.le_of_ble_eq_true rfl) (Nat.le_of_ble_eq_true rfl) ?_
      rw [hp]
      refine go_if_ne_f 12 dX5_carryOut_7 (by decide) (rfl) ?_
      refine go_iconst 0 dX5_carryOut_10 (by decide) ?_
      exact go_ireturn dX5_carryOut_11 rfl (by decide)
    · rw [show crySt Q 0 hd ky = cryQ Q 0 hd ky from by unfold crySt; rw [hp]; rfl]
      have hlt : ∀ k, k < 4 → (Q k).1 < 30 := by
        intro k hk
        rw [hI.1 k hk]
        simp only [posB, if_true, Bool.and_eq_true, decide_eq_true_eq] at hp
        exact hp.2
      rw [show cryQ Q 0 hd ky = mapU (opPut ky (nI (freeN Q))) Q 4 from by simp [cryQ]]
      refine go_aload_n dX5_carryOut_0 rfl ?_
      refine go_iload_n dX5_carryOut_1 rfl ?_
      refine go_iload_n dX5_carryOut_2 rfl ?_
      refine go_iload_n dX5_carryOut_3 rfl ?_
      refine go_virt1 dX5_carryOut_4 (c_isPossible l hq hI.2.1 (by decide)) v_X5_108_4 rfl (quW_ob hq) rfl (Nat.le_of_ble_eq_true rfl) (Nat.le_of_ble_eq_true rfl) (Nat.le_of_ble_eq_true rfl) ?_
      rw [hp]
      refine go_if_ne_t 12 dX5_carryOut_7 (by decide) (by decide) ?_
      refine go_iload_n dX5_carryOut_12 rfl ?_
      refine go_tblIn 52 dX5_carryOut_13 (by decide) (by decide) rfl (by decide) ?_
      refine go_aload_n dX5_carryOut_52 rfl ?_
      refine go_iload_n dX5_carryOut_53 rfl ?_
      refine go_virt1 dX5_carryOut_54 (c_qputIn l hq hlt) v_X5_112_4 rfl (quW_ob hq) rfl (Nat.le_of_ble_eq_true rfl) (Nat.le_of_ble_eq_true rfl) (Nat.le_of_ble_eq_true rfl) ?_
      refine go_pop dX5_carryOut_57 rfl ?_
      refine go_goto 113 dX5_carryOut_58 (by decide) ?_
      refine go_iconst 1 dX5_carryOut_113 (by decide) ?_
      exact go_ireturn dX5_carryOut_114 rfl (by decide)
  · cases hp : posB Q 1 hd ky
    · rw [show crySt Q 1 hd ky = Q from by unfold crySt; rw [hp]; rfl]
      refine go_aload_n dX5_carryOut_0 rfl ?_
      refine go_iload_n dX5_carryOut_1 rfl ?_
      refine go_iload_n dX5_carryOut_2 rfl ?_
      refine go_iload_n dX5_carryOut_3 rfl ?_
      refine go_virt1 dX5_carryOut_4 (c_isPossible l hq hI.2.1 (by decide)) v_X5_108_4 rfl (quW_ob hq) rfl (Nat.le_of_ble_eq_true rfl) (Nat.le_of_ble_eq_true rfl) (Nat.le_of_ble_eq_true rfl) ?_
      rw [hp]
      refine go_if_ne_f 12 dX5_carryOut_7 (by decide) (rfl) ?_
      refine go_iconst 0 dX5_carryOut_10 (by decide) ?_
      exact go_ireturn dX5_carryOut_11 rfl (by decide)
    · rw [show crySt Q 1 hd ky = cryQ Q 1 hd ky from by unfold crySt; rw [hp]; rfl]
      have h0 : 0 < (Q 0).1 := by simpa [posB] using hp
      have hx : ∀ k, k < 4 → fndN (Q k).2.1 (Q k).1 (lstV Q 0) < (Q k).1 := hI.2.2 _ (by rw [show lstV Q 0 = hs ((Q 0).2.1 0) from if_pos h0]; exact fnd_hit h0)
      rw [show cryQ Q 1 hd ky = mapU (opTake (lstV Q 0)) Q 4 from by simp [cryQ]]
      refine go_aload_n dX5_carryOut_0 rfl ?_
      refine go_iload_n dX5_carryOut_1 rfl ?_
      refine go_iload_n dX5_carryOut_2 rfl ?_
      refine go_iload_n dX5_carryOut_3 rfl ?_
      refine go_virt1 dX5_carryOut_4 (c_isPossible l hq hI.2.1 (by decide)) v_X5_108_4 rfl (quW_ob hq) rfl (Nat.le_of_ble_eq_true rfl) (Nat.le_of_ble_eq_true rfl) (Nat.le_of_ble_eq_true rfl) ?_
      rw [hp]
      refine go_if_ne_t 12 dX5_carryOut_7 (by decide) (by decide) ?_
      refine go_iload_n dX5_carryOut_12 rfl ?_
      refine go_tblIn 61 dX5_carryOut_13 (by decide) (by decide) rfl (by decide) ?_
      refine go_aload_n dX5_carryOut_61 rfl ?_
      refine go_aload_n dX5_carryOut_62 rfl ?_
      refine go_iconst 0 dX5_carryOut_63 (by decide) ?_
      refine go_virt1 dX5_carryOut_64 (c_leastOf l hq (k := 0) (by decide) hI.2.1) v_X5_114_4 rfl (quW_ob hq) rfl (Nat.le_of_ble_eq_true rfl) (Nat.le_of_ble_eq_true rfl) (Nat.le_of_ble_eq_true rfl) ?_
      refine go_virt0 dX5_carryOut_67 (c_qtakeOut l hq (fun k hk => by rw [hI.1 k hk]; exact hI.2.1) hx) v_X5_117_4 rfl (quW_ob hq) rfl (Nat.le_of_ble_eq_true rfl) (Nat.le_of_ble_eq_true rfl) (Nat.le_of_ble_eq_true rfl) ?_
      refine go_goto 113 dX5_carryOut_70 (by decide) ?_
      refine go_iconst 1 dX5_carryOut_113 (by decide) ?_
      exact go_ireturn dX5_carryOut_114 rfl (by decide)
  · cases hp : posB Q 2 hd ky
    · rw [show crySt Q 2 hd ky = Q from by unfold crySt; rw [hp]; rfl]
      refine go_aload_n dX5_carryOut_0 rfl ?_
      refine go_iload_n dX5_carryOut_1 rfl ?_
      refine go_iload_n dX5_carryOut_2 rfl ?_
      refine go_iload_n dX5_carryOut_3 rfl ?_
      refine go_virt1 dX5_carryOut_4 (c_isPossible l hq hI.2.1 (by decide)) v_X5_108_4 rfl (quW_ob hq) rfl (Nat.le_of_ble_eq_true rfl) (Nat.le_of_ble_eq_true rfl) (Nat.le_of_ble_eq_true rfl) ?_
      rw [hp]
      refine go_if_ne_f 12 dX5_carryOut_7 (by decide) (rfl) ?_
      refine go_iconst 0 dX5_carryOut_10 (by decide) ?_
      exact go_ireturn dX5_carryOut_11 rfl (by decide)
    · rw [show crySt Q 2 hd ky = cryQ Q 2 hd ky from by unfold crySt; rw [hp]; rfl]
      have h0 : 0 < (Q 0).1 := by simpa [posB] using hp
      have h1n : (Q 1).1 ≤ 30 := by rw [hI.1 1 (by decide)]; exact hI.2.1
      have hx : ∀ k, k < 4 → fndN (Q k).2.1 (Q k).1 (grtV Q 0) < (Q k).1 := hI.2.2 _ (by rw [show grtV Q 0 = hs ((Q 0).2.1 (topN (Q 0).1 0)) from by unfold grtV; rw [if_pos rfl, if_pos h0]]; exact fnd_hit (topN_lt (by omega)))
      rw [show cryQ Q 2 hd ky = mapU (opTake (grtV Q 0)) (cfgU Q) 4 from by simp [cryQ]]
      refine go_aload_n dX5_carryOut_0 rfl ?_
      refine go_iload_n dX5_carryOut_1 rfl ?_
      refine go_iload_n dX5_carryOut_2 rfl ?_
      refine go_iload_n dX5_carryOut_3 rfl ?_
      refine go_virt1 dX5_carryOut_4 (c_isPossible l hq hI.2.1 (by decide)) v_X5_108_4 rfl (quW_ob hq) rfl (Nat.le_of_ble_eq_true rfl) (Nat.le_of_ble_eq_true rfl) (Nat.le_of_ble_eq_true rfl) ?_
      rw [hp]
      refine go_if_ne_t 12 dX5_carryOut_7 (by decide) (by decide) ?_
      refine go_iload_n dX5_carryOut_12 rfl ?_
      refine go_tblIn 73 dX5_carryOut_13 (by decide) (by decide) rfl (by decide) ?_
      refine go_aload_n dX5_carryOut_73 rfl ?_
      refine go_getfield dX5_carryOut_74 f_X5_21_4 (quW_ob hq) rfl ?_
      refine go_virt0 dX5_carryOut_77 (cq_cfg l hq h1n) v_X5_118_3 rfl (quW_obk hq (k := 1) (by decide) rfl rfl) rfl (Nat.le_of_ble_eq_true rfl) (Nat.le_of_ble_eq_true rfl) (Nat.le_of_ble_eq_true rfl) ?_
      refine go_aload_n dX5_carryOut_80 rfl ?_
      refine go_aload_n dX5_carryOut_81 rfl ?_
      refine go_iconst 0 dX5_carryOut_82 (by decide) ?_
      refine go_virt1 dX5_carryOut_83 (c_greatestOf0 l hq (Q := cfgU Q) (by rw [cfgU_n]; exact hI.2.1)) v_X5_121_4 rfl (quW_ob hq) rfl (Nat.le_of_ble_eq_true rfl) (Nat.le_of_ble_eq_true rfl) (Nat.le_of_ble_eq_true rfl) ?_
      rw [grtV_cfg]
      refine go_virt0 dX5_carryOut_86 (c_qtakeOut l hq (Q := cfgU Q) (x := grtV Q 0) (fun k hk => by rw [cfgU_n, hI.1 k hk]; exact hI.2.1) (fun k hk => by rw [cfgU_n, cfgU_f]; exact hx k hk)) v_X5_117_4 rfl (quW_ob hq) rfl (Nat.le_of_ble_eq_true rfl) (Nat.le_of_ble_eq_true rfl) (Nat.le_of_ble_eq_true rfl) ?_
      refine go_goto 113 dX5_carryOut_89 (by decide) ?_
      refine go_iconst 1 dX5_carryOut_113 (by decide) ?_
      exact go_ireturn dX5_carryOut_114 rfl (by decide)
  · cases hp : posB Q 3 hd ky
    · rw [show crySt Q 3 hd ky = Q from by unfold crySt; rw [hp]; rfl]
      refine go_aload_n dX5_carryOut_0 rfl ?_
      refine go_iload_n dX5_carryOut_1 rfl ?_
      refine go_iload_n dX5_carryOut_2 rfl ?_
      refine go_iload_n dX5_carryOut_3 rfl ?_
      refine go_virt1 dX5_carryOut_4 (c_isPossible l hq hI.2.1 (by decide)) v_X5_108_4 rfl (quW_ob hq) rfl (Nat.le_of_ble_eq_true rfl) (Nat.le_of_ble_eq_true rfl) (Nat.le_of_ble_eq_true rfl) ?_
      rw [hp]
      refine go_if_ne_f 12 dX5_carryOut_7 (by decide) (rfl) ?_
      refine go_iconst 0 dX5_carryOut_10 (by decide) ?_
      exact go_ireturn dX5_carryOut_11 rfl (by decide)
    · rw [show crySt Q 3 hd ky = cryQ Q 3 hd ky from by unfold crySt; rw [hp]; rfl]
      have hx : ∀ k, k < 4 → fndN (Q k).2.1 (Q k).1 hd < (Q k).1 := hI.2.2 _ (by simpa [posB, hasB] using hp)
      rw [show cryQ Q 3 hd ky = mapU (opTake hd) Q 4 from by simp [cryQ]]
      refine go_aload_n dX5_carryOut_0 rfl ?_
      refine go_iload_n dX5_carryOut_1 rfl ?_
      refine go_iload_n dX5_carryOut_2 rfl ?_
      refine go_iload_n dX5_carryOut_3 rfl ?_
      refine go_virt1 dX5_carryOut_4 (c_isPossible l hq hI.2.1 (by decide)) v_X5_108_4 rfl (quW_ob hq) rfl (Nat.le_of_ble_eq_true rfl) (Nat.le_of_ble_eq_true rfl) (Nat.le_of_ble_eq_true rfl) ?_
      rw [hp]
      refine go_if_ne_t 12 dX5_carryOut_7 (by decide) (by decide) ?_
      refine go_iload_n dX5_carryOut_12 rfl ?_
      refine go_tblIn 92 dX5_carryOut_13 (by decide) (by decide) rfl (by decide) ?_
      refine go_aload_n dX5_carryOut_92 rfl ?_
      refine go_iload_n dX5_carryOut_93 rfl ?_
      refine go_virt0 dX5_carryOut_94 (c_qtakeOut l hq (fun k hk => by rw [hI.1 k hk]; exact hI.2.1) hx) v_X5_117_4 rfl (quW_ob hq) rfl (Nat.le_of_ble_eq_true rfl) (Nat.le_of_ble_eq_true rfl) (Nat.le_of_ble_eq_true rfl) ?_
      refine go_goto 113 dX5_carryOut_97 (by decide) ?_
      refine go_iconst 1 dX5_carryOut_113 (by decide) ?_
      exact go_ireturn dX5_carryOut_114 rfl (by decide)
  · cases hp : posB Q 4 hd ky
    · rw [show crySt Q 4 hd ky = Q from by unfold crySt; rw [hp]; rfl]
      refine go_aload_n dX5_carryOut_0 rfl ?_
      refine go_iload_n dX5_carryOut_1 rfl ?_
      refine go_iload_n dX5_carryOut_2 rfl ?_
      refine go_iload_n dX5_carryOut_3 rfl ?_
      refine go_virt1 dX5_carryOut_4 (c_isPossible l hq hI.2.1 (by decide)) v_X5_108_4 rfl (quW_ob hq) rfl (Nat.le_of_ble_eq_true rfl) (Nat.le_of_ble_eq_true rfl) (Nat.le_of_ble_eq_true rfl) ?_
      rw [hp]
      refine go_if_ne_f 12 dX5_carryOut_7 (by decide) (rfl) ?_
      refine go_iconst 0 dX5_carryOut_10 (by decide) ?_
      exact go_ireturn dX5_carryOut_11 rfl (by decide)
    · rw [show crySt Q 4 hd ky = cryQ Q 4 hd ky from by unfold crySt; rw [hp]; rfl]
      rw [show cryQ Q 4 hd ky = mapU opArr Q 4 from by simp [cryQ]]
      refine go_aload_n dX5_carryOut_0 rfl ?_
      refine go_iload_n dX5_carryOut_1 rfl ?_
      refine go_iload_n dX5_carryOut_2 rfl ?_
      refine go_iload_n dX5_carryOut_3 rfl ?_
      refine go_virt1 dX5_carryOut_4 (c_isPossible l hq hI.2.1 (by decide)) v_X5_108_4 rfl (quW_ob hq) rfl (Nat.le_of_ble_eq_true rfl) (Nat.le_of_ble_eq_true rfl) (Nat.le_of_ble_eq_true rfl) ?_
      rw [hp]
      refine go_if_ne_t 12 dX5_carryOut_7 (by decide) (by decide) ?_
      refine go_iload_n dX5_carryOut_12 rfl ?_
      refine go_tblIn 109 dX5_carryOut_13 (by decide) (by decide) rfl (by decide) ?_
      refine go_aload_n dX5_carryOut_109 rfl ?_
      refine go_virt0 dX5_carryOut_110 (c_qarrange l hq (fun k hk => by rw [hI.1 k hk]; exact hI.2.1)) v_X5_125_4 rfl (quW_ob hq) rfl (Nat.le_of_ble_eq_true rfl) (Nat.le_of_ble_eq_true rfl) (Nat.le_of_ble_eq_true rfl) ?_
      refine go_iconst 1 dX5_carryOut_113 (by decide) ?_
      exact go_ireturn dX5_carryOut_114 rfl (by decide)
  · cases hp : posB Q 5 hd ky
    · rw [show crySt Q 5 hd ky = Q from by unfold crySt; rw [hp]; rfl]
      refine go_aload_n dX5_carryOut_0 rfl ?_
      refine go_iload_n dX5_carryOut_1 rfl ?_
      refine go_iload_n dX5_carryOut_2 rfl ?_
      refine go_iload_n dX5_carryOut_3 rfl ?_
      refine go_virt1 dX5_carryOut_4 (c_isPossible l hq hI.2.1 (by decide)) v_X5_108_4 rfl (quW_ob hq) rfl (Nat.le_of_ble_eq_true rfl) (Nat.le_of_ble_eq_true rfl) (Nat.le_of_ble_eq_true rfl) ?_
      rw [hp]
      refine go_if_ne_f 12 dX5_carryOut_7 (by decide) (rfl) ?_
      refine go_iconst 0 dX5_carryOut_10 (by decide) ?_
      exact go_ireturn dX5_carryOut_11 rfl (by decide)
    · rw [show crySt Q 5 hd ky = cryQ Q 5 hd ky from by unfold crySt; rw [hp]; rfl]
      have hx : ∀ k, k < 4 → fndN (Q k).2.1 (Q k).1 hd < (Q k).1 := hI.2.2 _ (by simp [posB, hasB] at hp; exact hp.1)
      rw [show cryQ Q 5 hd ky = mapU (opGive hd ky) Q 4 from by simp [cryQ]]
      refine go_aload_n dX5_carryOut_0 rfl ?_
      refine go_iload_n dX5_carryOut_1 rfl ?_
      refine go_iload_n dX5_carryOut_2 rfl ?_
      refine go_iload_n dX5_carryOut_3 rfl ?_
      refine go_virt1 dX5_carryOut_4 (c_isPossible l hq hI.2.1 (by decide)) v_X5_108_4 rfl (quW_ob hq) rfl (Nat.le_of_ble_eq_true rfl) (Nat.le_of_ble_eq_true rfl) (Nat.le_of_ble_eq_true rfl) ?_
      rw [hp]
      refine go_if_ne_t 12 dX5_carryOut_7 (by decide) (by decide) ?_
      refine go_iload_n dX5_carryOut_12 rfl ?_
      refine go_tblIn 100 dX5_carryOut_13 (by decide) (by decide) rfl (by decide) ?_
      refine go_aload_n dX5_carryOut_100 rfl ?_
      refine go_iload_n dX5_carryOut_101 rfl ?_
      refine go_iload_n dX5_carryOut_102 rfl ?_
      refine go_virt0 dX5_carryOut_103 (c_qgiveKey l hq (fun k hk => by rw [hI.1 k hk]; exact hI.2.1) hx) v_X5_124_4 rfl (quW_ob hq) rfl (Nat.le_of_ble_eq_true rfl) (Nat.le_of_ble_eq_true rfl) (Nat.le_of_ble_eq_true rfl) ?_
      refine go_goto 113 dX5_carryOut_106 (by decide) ?_
      refine go_iconst 1 dX5_carryOut_113 (by decide) ?_
      exact go_ireturn dX5_carryOut_114 rfl (by decide)
def takeOf (x : Int32) (k : Nat) (Q : QU) : QU := if k = 2 then va_up (va_up Q 2 (opTake x 2 (Q 2))) 3 (opTake x 3 (Q 3)) else va_up Q k (opTake x k (Q k))
theorem c_takeOutOf (l : Launch) {w : MW} {q : Nat} {Q : QU} (hq : q + 8 < w.1) {k : Nat} (hk : k < 3) {x : Int32} (hn : ∀ k, k < 4 → (Q k).1 ≤ 30) (hx : ∀ j, j < 4 → j = k → fndN (Q j).2.1 (Q j).1 x < (Q j).1) (hx3 : k = 2 → fndN (Q 3).2.1 (Q 3).1 x < (Q 3).1) : Ct l (.code yX5_takeOutOf cX5_takeOutOf 3 none) yX5_takeOutOf 5 0 0 [.ref q, .int (nI k), .int x] (quW w q Q) (.inl none) (quW w q (takeOf x k Q)) := by
  refine ct_of (by decide +kernel) (Nat.le_of_ble_eq_true rfl) ?_
  by_cases e : k = 2
  · subst e
    rw [show takeOf x 2 Q = va_up (va_up Q 2 (opTake x 2 (Q 2))) 3 (opTake x 3 (Q 3)) from if_pos rfl]
    refine go_aload_n dX5_takeOutOf_0 rfl ?_
    refine go_iload_n dX5_takeOutOf_1 rfl ?_
    refine go_virt1 dX5_takeOutOf_2 (c_layout l hq (k := 2) (by decide)) v_X5_54_4 rfl (quW_ob hq) rfl (Nat.le_of_ble_eq_true rfl) (Nat.le_of_ble_eq_true rfl) (Nat.le_of_ble_eq_true rfl) ?_
    refine go_iload_n dX5_takeOutOf_5 rfl ?_
    refine go_virt0 dX5_takeOutOf_6 (cq_takeOut l hq (k := 2) (by decide) (hn 2 (by decide)) rfl (hx 2 (by decide) rfl)) (v_X5_86 (Or.inl rfl)) rfl (quW_obk hq (k := 2) (by decide) rfl rfl) rfl (Nat.le_of_ble_eq_true rfl) (Nat.le_of_ble_eq_true rfl) (Nat.le_of_ble_eq_true rfl) ?_
    refine go_iload_n dX5_takeOutOf_9 rfl ?_
    refine go_iconst 2 dX5_takeOutOf_10 (by decide) ?_
    refine go_icmp_ne_f 22 dX5_takeOutOf_11 (by decide) (rfl) ?_
    refine go_aload_n dX5_takeOutOf_14 rfl ?_
    refine go_getfield dX5_takeOutOf_15 f_X5_34_4 (quW_ob hq) rfl ?_
    refine go_iload_n dX5_takeOutOf_18 rfl ?_
    refine go_virt0 dX5_takeOutOf_19 (cq_takeOut l hq (Q := va_up Q 2 (opTake x 2 (Q 2))) (k := 3) (by decide) (hn 3 (by decide)) rfl (hx3 rfl)) v_X5_90_0 rfl (quW_obk hq (k := 3) (by decide) rfl rfl) rfl (Nat.le_of_ble_eq_true rfl) (Nat.le_of_ble_eq_true rfl) (Nat.le_of_ble_eq_true rfl) ?_
    exact go_return dX5_takeOutOf_22 rfl
  · rw [show takeOf x k Q = va_up Q k (opTake x k (Q k)) from if_neg e]
    refine go_aload_n dX5_takeOutOf_0 rfl ?_
    refine go_iload_n dX5_takeOutOf_1 rfl ?_
    refine go_virt1 dX5_takeOutOf_2 (c_layout l hq (k := k) (by omega)) v_X5_54_4 rfl (quW_ob hq) rfl (Nat.le_of_ble_eq_true rfl) (Nat.le_of_ble_eq_true rfl) (Nat.le_of_ble_eq_true rfl) ?_
    refine go_iload_n dX5_takeOutOf_5 rfl ?_
    refine go_virt0 dX5_takeOutOf_6 (cq_takeOut l hq (k := k) (by omega) (hn k (by omega)) rfl (hx k (by omega) rfl)) (v_X5_86 kci_ok) rfl (quW_obk hq (k := k) (by omega) rfl rfl) rfl (Nat.le_of_ble_eq_true rfl) (Nat.le_of_ble_eq_true rfl) (Nat.le_of_ble_eq_true rfl) ?_
    refine go_iload_n dX5_takeOutOf_9 rfl ?_
    refine go_iconst 2 dX5_takeOutOf_10 (by decide) ?_
    refine go_icmp_ne_t 22 dX5_takeOutOf_11 (by decide) (n_ne (b := 2) e (by omega) (by decide)) ?_
    exact go_return dX5_takeOutOf_22 rfl
theorem quW_comm {w : MW} {p q : Nat} {P Q : QU} (hd : p + 8 < q ∨ q + 8 < p) : quW (quW w p P) q Q = quW (quW w q Q) p P := by
  refine Prod.ext rfl (funext fun a => ?_)
  by_cases e1 : q ≤ a ∧ a ≤ q + 8
  · rw [quW_get (w := quW w q Q) (q := p) (by omega)]
    show (if a = q then _ else if q < a ∧ a ≤ q + 8 then quC q Q (a - q - 1) else _) = (if a = q then _ else if q < a ∧ a ≤ q + 8 then quC q Q (a - q - 1) else _)
    by_cases e2 : a = q
    · rw [if_pos e2, if_pos e2]
    · rw [if_neg e2, if_neg e2, if_pos (by omega), if_pos (by omega)]
  · rw [quW_get (w := quW w p P) (q := q) (by omega)]
    by_cases e2 : p ≤ a ∧ a ≤ p + 8
    · show (if a = p then _ else if p < a ∧ a ≤ p + 8 then quC p P (a - p - 1) else _) = (if a = p then _ else if p < a ∧ a ≤ p + 8 then quC p P (a - p - 1) else _)
      by_cases e3 : a = p
      · rw [if_pos e3, if_pos e3]
      · rw [if_neg e3, if_neg e3, if_pos (by omega), if_pos (by omega)]
    · rw [quW_get (w := w) (q := p) (by omega), quW_get (w := quW w q Q) (q := p) (by omega), quW_get (w := w) (q := q) (by omega)]
theorem cq_copy (l : Launch) {w : MW} {p q : Nat} {P Q : QU} (hp : p + 8 < w.1) (hq : q + 8 < w.1) (hd : p + 8 < q ∨ q + 8 < p) {k : Nat} (hk : k < 4) : Ct l (.code yX3_copyFrom cX3_copyFrom 2 none) yX3_copyFrom 2 0 0 [.ref (q + 1 + 2 * k), .ref (p + 1 + 2 * k)] (quW (quW w p P) q Q) (.inl none) (quW (quW w p P) q (va_up Q k (opCopy P k (Q k)))) :=
  ct_w (c_copyFrom l (w := quW (quW w p P) q Q) (h := q + 1 + 2 * k) (ci := kci k) (xt := kxt k) (by show q + 1 + 2 * k + 1 < w.1; omega) kci_ok (g := p + 1 + 2 * k) (cj := kci k) (xt2 := kxt k) (f2 := (P k).2.1) (n2 := (P k).1) (c2 := (P k).2.2) kci_ok ⟨by show p + 1 + 2 * k < w.1; omega, by rw [quW_get (by omega), quW_at hk]⟩ ⟨by show p + 1 + 2 * k + 1 < w.1; omega, by rw [quW_get (by omega), quW_at2 hk]⟩ (by omega) (by omega) (by omega) (by omega)) (quW_lay hk) (quW_set hk _ _ _) rfl
theorem c_qcopy_2 (l : Launch) {w : MW} {p q : Nat} {P Q : QU} (hp : p + 8 < w.1) (hq : q + 8 < w.1) (hd : p + 8 < q ∨ q + 8 < p) : ∀ (u i : Nat), u + i = 4 → Go l yX5_copyFrom cX5_copyFrom 3 none [] none (mm_Z (mm_eq (.inl none) (quW (quW w p P) q (mapU (opCopy P) Q 4)))) 3 0 0 2 [(0, .ref q), (1, .ref p), (2, .int (nI i))] [] (quW (quW w p P) q (mapU (opCopy P) Q i)) := by
  intro u
  induction u with
  | zero =>
    intro i hi
    have e : i = 4 := by omega
    subst e
    refine go_iload_n dX5_copyFrom_2 rfl ?_
    refine go_iconst 4 dX5_copyFrom_3 (by decide) ?_
    refine go_icmp_ge_t 26 dX5_copyFrom_4 (by decide) (by decide) ?_
    exact go_return dX5_copyFrom_26 rfl
  | succ u ih =>
    intro i hi
    refine go_iload_n dX5_copyFrom_2 rfl ?_
    refine go_iconst 4 dX5_copyFrom_3 (by decide) ?_
    refine go_icmp_ge_f 26 dX5_copyFrom_4 (by decide) (n_nle (a := 4) (by omega) (by decide)) ?_
    refine go_aload_n dX5_copyFrom_7 rfl ?_
    refine go_iload_n dX5_copyFrom_8 rfl ?_
    refine go_virt1 dX5_copyFrom_9 (c_layout l (w := quW w p P) (by show q + 8 < w.1; omega) (k := i) (by omega)) v_X5_54_4 rfl (quW_ob (w := quW w p P) (by show q + 8 < w.1; omega)) rfl (Nat.le_of_ble_eq_true rfl) (Nat.le_of_ble_eq_true rfl) (Nat.le_of_ble_eq_true rfl) ?_
    refine go_aload_n dX5_copyFrom_12 rfl ?_
    refine go_iload_n dX5_copyFrom_13 rfl ?_
    refine go_virt1 dX5_copyFrom_14 (ct_w (c_layout l (w := quW w q (mapU (opCopy P) Q i)) (q := p) (Q := P) (by show p + 8 < w.1; omega) (k := i) (by omega)) (quW_comm hd).symm (quW_comm hd).symm rfl) v_X5_54_4 rfl (show mm_ob (quW (quW w p P) q (mapU (opCopy P) Q i)) p 4 _ from by rw [quW_comm hd]; exact quW_ob (w := quW w q (mapU (opCopy P) Q i)) (by show p + 8 < w.1; omega)) rfl (Nat.le_of_ble_eq_true rfl) (Nat.le_of_ble_eq_true rfl) (Nat.le_of_ble_eq_true rfl) ?_
    refine go_virt0 dX5_copyFrom_17 (cq_copy l hp hq hd (k := i) (by omega)) (v_X5_98 kci_ok) rfl (quW_obk (w := quW w p P) (by show q + 8 < w.1; omega) (k := i) (by omega) rfl rfl) rfl (Nat.le_of_ble_eq_true rfl) (Nat.le_of_ble_eq_true rfl) (Nat.le_of_ble_eq_true rfl) ?_
    rw [mapU_at, mapU_s]
    refine go_iinc dX5_copyFrom_20 rfl (Nat.le_of_ble_eq_true rfl) rfl (show _ = _ + 1 from rfl) ?_
    rw [a_k1]
    refine go_goto 2 dX5_copyFrom_23 (by decide) ?_
    exact go_sub [(0, .ref q), (1, .ref p), (2, .int (nI (i + 1)))] ⟨rfl, rfl, rfl, trivial⟩ (ih (i + 1) (by omega))
theorem c_qcopyFrom (l : Launch) {w : MW} {p q : Nat} {P Q : QU} (hp : p + 8 < w.1) (hq : q + 8 < w.1) (hd : p + 8 < q ∨ q + 8 < p) : Ct l (.code yX5_copyFrom cX5_copyFrom 3 none) yX5_copyFrom 3 0 0 [.ref q, .ref p] (quW (quW w p P) q Q) (.inl none) (quW (quW w p P) q (mapU (opCopy P) Q 4)) := by
  refine ct_of (by decide +kernel) (Nat.le_of_ble_eq_true rfl) ?_
  refine go_iconst 0 dX5_copyFrom_0 (by decide) ?_
  refine go_istore_n dX5_copyFrom_1 (Nat.le_of_ble_eq_true rfl) rfl ?_
  refine go_sub [(0, .ref q), (1, .ref p), (2, .int (nI 0))] ⟨rfl, rfl, rfl, trivial⟩ ?_
  have z := c_qcopy_2 l (P := P) (Q := Q) hp hq hd 4 0 rfl
  rw [mapU_0] at z
  exact z
