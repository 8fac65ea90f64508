set_option maxRecDepth 100000 in
set_option maxHeartbeats 4000000 in
theorem c_X9_held {Z : GZ} {l : Launch} {v lo hi : Int32} : Ct Z l yX9_held cX9_held 3 (some .int) (rmK 0) [.int v, .int lo, .int hi] [] (fun v1 w => v1 = some (.int (hdI v lo hi)) ∧ w = []) := by
  refine Ct.ofJ (own := RX9) (nm := "held") (lv0 := [(0, .int v), (1, .int lo), (2, .int hi)]) (by decide) rfl rfl (Nat.le_of_ble_eq_true rfl) rfl (fun X hXl C E => ?_)
  subst hXl
  refine J_room (rc2 := 0) (rs2 := 0) (Nat.le_refl _) (Nat.le_refl _) ?_
  refine J_iload_n C iX9_held_0 rfl rfl ?_
  refine J_iload_n C iX9_held_1 rfl rfl ?_
  refine J_icmpge 9 C iX9_held_2 rfl (fun h2 => ?_) (fun h2 => ?_)
  · refine J_iload_n C iX9_held_9 rfl rfl ?_
    refine J_iload_n C iX9_held_10 rfl rfl ?_
    refine J_icmple 18 C iX9_held_11 rfl (fun h11 => ?_) (fun h11 => ?_)
    · refine J_iload_n C iX9_held_18 rfl rfl ?_
      exact J_iret C E iX9_held_19 ⟨congrArg (fun z => some (Value.int z)) (show (v : Int32) = hdI v lo hi by rw [hdI, if_neg (by first | exact h2 | exact Int32.not_lt.mpr h2), if_neg (by first | exact h11 | exact Int32.not_lt.mpr h11)]), rfl⟩
    · refine J_iload_n C iX9_held_14 rfl rfl ?_
      refine J_goto 19 C iX9_held_15 rfl ?_
      exact J_iret C E iX9_held_19 ⟨congrArg (fun z => some (Value.int z)) (show (hi : Int32) = hdI v lo hi by rw [hdI, if_neg (by first | exact h2 | exact Int32.not_lt.mpr h2), if_pos (by first | exact h11 | exact Int32.not_le.mp h11)]), rfl⟩
  · refine J_iload_n C iX9_held_5 rfl rfl ?_
    refine J_goto 19 C iX9_held_6 rfl ?_
    exact J_iret C E iX9_held_19 ⟨congrArg (fun z => some (Value.int z)) (show (lo : Int32) = hdI v lo hi by rw [hdI, if_pos (by first | exact h2 | exact Int32.not_le.mp h2)]), rfl⟩

set_option maxRecDepth 100000 in
set_option maxHeartbeats 4000000 in
theorem c_X9_pass {Z : GZ} {l : Launch} {s hA lA oA tA eA : Nat} {rw lr p h f t : Nat → Nat} {fo ft fe : Nat → Option Nat} {L : List TC} {dy ca : Int32} (ok : SnOk (toN Z) p h f t) (tr : TrOk Z (toM Z) L fo ft fe) : Ct Z l yX9_pass cX9_pass 6 none (rmM 16 4 12) [.ref s] (((wSim Z s (toN Z) (toM Z) hA lA oA tA eA (fun j => some (rw j)) (fun j => some (lr j)) fo ft fe dy ca ++ wRw Z (toN Z) rw p h f t) ++ wPl Z L) ++ wLr Z (toM Z) lr (toK Z) (toV Z)) (fun v w => v = none ∧ ∃ (h' f' t' : Nat → Nat) (c' : Int32), pdN Z p dy (h, f, t, ca) (toM Z) = (h', f', t', c') ∧ SnOk (toN Z) p h' f' t' ∧ w = (((wSim Z s (toN Z) (toM Z) hA lA oA tA eA (fun j => some (rw j)) (fun j => some (lr j)) fo ft fe (dy + 1) c' ++ wRw Z (toN Z) rw p h' f' t') ++ wPl Z L) ++ wLr Z (toM Z) lr (toK Z) (toV Z))) := by
  refine Ct.ofJ (own := RX9) (nm := "pass") (lv0 := [(0, .ref s)]) (by decide) rfl rfl (Nat.le_of_ble_eq_true rfl) rfl (fun X hXl C E => ?_)
  subst hXl
  refine J_room (rc2 := 4) (rs2 := 12) (Nat.le_refl _) (Nat.le_refl _) ?_
  have hto := toN_in Z
  have htm := toM_in Z
  refine J_iconst 0 C iX9_pass_0 rfl ?_
  refine J_istore_n [(1, .int 0), (0, .ref s)] C iX9_pass_1 rfl (by decide) rfl ?_
  refine J_room (rc2 := 1 * (4 - 0)) (rs2 := 3 * (4 - 0)) (by omega) (by omega) ?_
  refine J_lvm [(1, .int (nI 0)), (0, .ref s)] (by rfl) ?_
  refine J_forR (σ := (Nat → Nat) × (Nat → Nat) × (Nat → Nat) × Int32) (fun k => 1 * (4 - k)) (fun k => 3 * (4 - k)) (fun k q => [(1, .int (nI k)), (0, .ref s)]) (fun k q => (((wSim Z s (toN Z) (toM Z) hA lA oA tA eA (fun j => some (rw j)) (fun j => some (lr j)) fo ft fe dy q.2.2.2 ++ wRw Z (toN Z) rw p q.1 q.2.1 q.2.2.1) ++ wPl Z L) ++ wLr Z (toM Z) lr (toK Z) (toV Z))) (fun k q => pdN Z p dy (h, f, t, ca) k = (q.1, q.2.1, q.2.2.1, q.2.2.2) ∧ SnOk (toN Z) p q.1 q.2.1 q.2.2.1) (toM Z) 0 (h, f, t, ca) (by omega) ⟨rfl, ok⟩ ?_ ?_
  · rintro ⟨hh1, ff1, tt1, cc1⟩ hI
    dsimp only at hI ⊢
    refine J_room (rc2 := 0) (rs2 := 0) (by omega) (by omega) ?_
    refine J_iload_n C iX9_pass_2 rfl rfl ?_
    refine J_aload_n C iX9_pass_3 rfl rfl ?_
    refine J_get (.ref lA) 0 C iX9_pass_4 gf_X9_15 rfl rfl ?_
    refine J_alenN (t0 := 6) 2 C iX9_pass_7 rfl rfl ?_
    refine J_icmpge 242 C iX9_pass_8 rfl (fun h8 => ?_) (fun h8 => absurd (nI_le (a := toM Z) (b := toM Z) (by omega) (by omega)) h8)
    refine J_aload_n C iX9_pass_242 rfl rfl ?_
    refine J_dup C iX9_pass_243 rfl ?_
    refine J_get (.int dy) 0 C iX9_pass_244 gf_X9_35 rfl rfl ?_
    refine J_iconst 1 C iX9_pass_247 rfl ?_
    refine J_iadd C iX9_pass_248 ?_
    refine J_put (((wSim Z s (toN Z) (toM Z) hA lA oA tA eA (fun j => some (rw j)) (fun j => some (lr j)) fo ft fe (dy + 1) cc1 ++ wRw Z (toN Z) rw p hh1 ff1 tt1) ++ wPl Z L) ++ wLr Z (toM Z) lr (toK Z) (toV Z)) 0 C iX9_pass_249 pf_X9_35 rfl rfl rfl (Nat.le_of_ble_eq_true rfl) rfl ?_
    exact J_vret C E iX9_pass_252 ⟨rfl, hh1, ff1, tt1, cc1, hI.1, hI.2, rfl⟩
  · rintro k ⟨hh1, ff1, tt1, cc1⟩ hk0 hk hI ih
    dsimp only at hI ⊢
    obtain ⟨hI1, hI2⟩ := hI
    have hvl := toV_lt Z k
    have hkin := toK_in Z k
    obtain ⟨⟨ao, eo9, ho⟩, ⟨at_, et9, ht⟩, hE⟩ := tr k hk
    have hv := (hI2.2 (toV Z k) hvl)
    refine J_room (rc2 := 1 + 1 * (1 * (4 - (k + 1)))) (rs2 := 3 + 1 * (3 * (4 - (k + 1)))) (by omega) (by omega) ?_
    refine J_iload_n C iX9_pass_2 rfl rfl ?_
    refine J_aload_n C iX9_pass_3 rfl rfl ?_
    refine J_get (.ref lA) 0 C iX9_pass_4 gf_X9_15 rfl rfl ?_
    refine J_alenN (t0 := 6) 2 C iX9_pass_7 rfl rfl ?_
    refine J_icmpge 242 C iX9_pass_8 rfl (fun h8 => absurd h8 (nI_ge (a := k) (b := toM Z) (by omega) (by omega))) (fun h8 => ?_)
    cases hw : hasT Z k
    · have hnE : fe k = none := by rw [if_neg (by rw [hw]; exact Bool.false_ne_true)] at hE; exact hE
      refine J_aload_n C iX9_pass_11 rfl rfl ?_
      refine J_get (.ref eA) 0 C iX9_pass_12 gf_X9_27 rfl rfl ?_
      refine J_iload_n C iX9_pass_15 rfl rfl ?_
      refine J_aaldT 5 C iX9_pass_16 rfl (vp_in_nI (n := k) (by omega) (by omega)) ?_
      rw [nI_clamp (n := k) (by omega)]
      rw [hnE]
      refine J_st (.null :: []) rfl ?_
      refine J_ifnullN 37 C iX9_pass_17 rfl ?_
      have hgo : ¬ (hasT Z k = true ∧ ¬ ofN (toN Z) dy p hh1 ff1 tt1 4 (tesQ Z k) = 1) := (fun q => by rw [hw] at q; exact Bool.false_ne_true q.1)
      refine J_aload_n C iX9_pass_37 rfl rfl ?_
      refine J_get (.ref hA) 0 C iX9_pass_38 gf_X9_9 rfl rfl ?_
      refine J_aload_n C iX9_pass_41 rfl rfl ?_
      refine J_get (.ref lA) 0 C iX9_pass_42 gf_X9_15 rfl rfl ?_
      refine J_iload_n C iX9_pass_45 rfl rfl ?_
      refine J_aaldA 2 C iX9_pass_46 rfl (vp_in_nI (n := k) (by omega) (by omega)) ?_
      rw [nI_clamp (n := k) (by omega)]
      refine J_st (.ref (lr k) :: .ref hA :: []) rfl ?_
      refine J_iconst 1 C iX9_pass_47 rfl ?_
      refine J_iald (n := 2) (f := lrwF (toK Z) (toV Z) k) ((((wSim Z s (toN Z) (toM Z) hA lA oA tA eA (fun j => some (rw j)) (fun j => some (lr j)) fo ft fe dy cc1 ++ wRw Z (toN Z) rw p hh1 ff1 tt1) ++ wPl Z L)).length + k) C iX9_pass_48 (mid_at (A := ((wSim Z s (toN Z) (toM Z) hA lA oA tA eA (fun j => some (rw j)) (fun j => some (lr j)) fo ft fe dy cc1 ++ wRw Z (toN Z) rw p hh1 ff1 tt1) ++ wPl Z L)) (M := wLr Z (toM Z) lr (toK Z) (toV Z)) (B := []) (by simp only [List.append_assoc, List.append_nil, List.nil_append]) (wLr_at (by omega))) (vp_in_nI (n := 1) (by decide) (by decide)) ?_
      refine J_st (.int (nI ((toV Z) k)) :: .ref hA :: []) rfl ?_
      refine J_aaldA 1 C iX9_pass_49 rfl (vp_in_nI (n := ((toV Z) k)) (by omega) (by omega)) ?_
      rw [nI_clamp (n := ((toV Z) k)) (by omega)]
      refine J_st (.ref (rw ((toV Z) k)) :: []) rfl ?_
      refine J_astore_n [(2, .ref (rw ((toV Z) k))), (1, .int (nI k)), (0, .ref s)] C iX9_pass_50 rfl (by decide) rfl ?_
      refine J_iconst 3 C iX9_pass_51 rfl ?_
      refine J_room (rc2 := 1 + (0 + 1 * (1 * (4 - (k + 1))))) (rs2 := 3 + (0 + 1 * (3 * (4 - (k + 1))))) (by omega) (by omega) ?_
      refine J_newI 3 C iX9_pass_52 (tsg_in (i := 132) (by decide +kernel) rfl) (by decide) rfl (by omega) (fun n1 => ?_)
      refine J_ws ((((wSim Z s (toN Z) (toM Z) hA lA oA tA eA (fun j => some (rw j)) (fun j => some (lr j)) fo ft fe dy cc1 ++ wRw Z (toN Z) rw p hh1 ff1 tt1) ++ wPl Z L) ++ wLr Z (toM Z) lr (toK Z) (toV Z)) ++ arrI Z n1 3 (fun _ => 0)) rfl ?_
      refine J_perm ((((wSim Z s (toN Z) (toM Z) hA lA oA tA eA (fun j => some (rw j)) (fun j => some (lr j)) fo ft fe dy cc1 ++ wRw Z (toN Z) rw p hh1 ff1 tt1) ++ wPl Z L) ++ arrI Z n1 3 (fun _ => 0)) ++ wLr Z (toM Z) lr (toK Z) (toV Z)) (sw2 _ _ _) ?_
      refine J_perm ((((wSim Z s (toN Z) (toM Z) hA lA oA tA eA (fun j => some (rw j)) (fun j => some (lr j)) fo ft fe dy cc1 ++ wRw Z (toN Z) rw p hh1 ff1 tt1) ++ arrI Z n1 3 (fun _ => 0)) ++ wPl Z L) ++ wLr Z (toM Z) lr (toK Z) (toV Z)) ((sw2 _ _ _).append_right _) ?_
      refine J_perm ((((wSim Z s (toN Z) (toM Z) hA lA oA tA eA (fun j => some (rw j)) (fun j => some (lr j)) fo ft fe dy cc1 ++ arrI Z n1 3 (fun _ => 0)) ++ wRw Z (toN Z) rw p hh1 ff1 tt1) ++ wPl Z L) ++ wLr Z (toM Z) lr (toK Z) (toV Z)) (((sw2 _ _ _).append_right _).append_right _) ?_
      refine J_perm ((((arrI Z n1 3 (fun _ => 0) ++ wSim Z s (toN Z) (toM Z) hA lA oA tA eA (fun j => some (rw j)) (fun j => some (lr j)) fo ft fe dy cc1) ++ wRw Z (toN Z) rw p hh1 ff1 tt1) ++ wPl Z L) ++ wLr Z (toM Z) lr (toK Z) (toV Z)) (((List.perm_append_comm.append_right _).append_right _).append_right _) ?_
      refine J_dup C iX9_pass_54 rfl ?_
      refine J_iconst 0 C iX9_pass_55 rfl ?_
      refine J_aload_n C iX9_pass_56 rfl rfl ?_
      refine J_iconst 1 C iX9_pass_57 rfl ?_
      refine J_iald (n := 4) (f := rowF p hh1 ff1 tt1 ((toV Z) k)) (((arrI Z n1 3 (fun _ => 0) ++ wSim Z s (toN Z) (toM Z) hA lA oA tA eA (fun j => some (rw j)) (fun j => some (lr j)) fo ft fe dy cc1)).length + ((toV Z) k)) C iX9_pass_58 (mid_at (A := (arrI Z n1 3 (fun _ => 0) ++ wSim Z s (toN Z) (toM Z) hA lA oA tA eA (fun j => some (rw j)) (fun j => some (lr j)) fo ft fe dy cc1)) (M := wRw Z (toN Z) rw p hh1 ff1 tt1) (B := (wPl Z L ++ wLr Z (toM Z) lr (toK Z) (toV Z))) (by simp only [List.append_assoc, List.append_nil, List.nil_append]) (wRw_at (by omega))) (vp_in_nI (n := 1) (by decide) (by decide)) ?_
      refine J_st (.int (nI (hh1 ((toV Z) k))) :: .int 0 :: .ref n1 :: .ref n1 :: []) rfl ?_
      refine J_iast ((((arrI Z n1 3 (upd (fun _ => 0) (Int32.toNatClampNeg 0) (nI (hh1 ((toV Z) k)))) ++ wSim Z s (toN Z) (toM Z) hA lA oA tA eA (fun j => some (rw j)) (fun j => some (lr j)) fo ft fe dy cc1) ++ wRw Z (toN Z) rw p hh1 ff1 tt1) ++ wPl Z L) ++ wLr Z (toM Z) lr (toK Z) (toV Z)) 0 C iX9_pass_59 rfl (vp_in_nI (n := 0) (by omega) (by omega)) rfl ?_
      rw [show Int32.toNatClampNeg 0 = 0 from rfl]
      refine J_dup C iX9_pass_60 rfl ?_
      refine J_iconst 1 C iX9_pass_61 rfl ?_
      refine J_aload_n C iX9_pass_62 rfl rfl ?_
      refine J_iconst 2 C iX9_pass_63 rfl ?_
      refine J_iald (n := 4) (f := rowF p hh1 ff1 tt1 ((toV Z) k)) (((arrI Z n1 3 (upd (fun _ => 0) 0 (nI (hh1 ((toV Z) k)))) ++ wSim Z s (toN Z) (toM Z) hA lA oA tA eA (fun j => some (rw j)) (fun j => some (lr j)) fo ft fe dy cc1)).length + ((toV Z) k)) C iX9_pass_64 (mid_at (A := (arrI Z n1 3 (upd (fun _ => 0) 0 (nI (hh1 ((toV Z) k)))) ++ wSim Z s (toN Z) (toM Z) hA lA oA tA eA (fun j => some (rw j)) (fun j => some (lr j)) fo ft fe dy cc1)) (M := wRw Z (toN Z) rw p hh1 ff1 tt1) (B := (wPl Z L ++ wLr Z (toM Z) lr (toK Z) (toV Z))) (by simp only [List.append_assoc, List.append_nil, List.nil_append]) (wRw_at (by omega))) (vp_in_nI (n := 2) (by decide) (by decide)) ?_
      refine J_st (.int (cuI (ff1 ((toV Z) k))) :: .int 1 :: .ref n1 :: .ref n1 :: []) rfl ?_
      refine J_iast ((((arrI Z n1 3 (upd (upd (fun _ => 0) 0 (nI (hh1 ((toV Z) k)))) (Int32.toNatClampNeg 1) (cuI (ff1 ((toV Z) k)))) ++ wSim Z s (toN Z) (toM Z) hA lA oA tA eA (fun j => some (rw j)) (fun j => some (lr j)) fo ft fe dy cc1) ++ wRw Z (toN Z) rw p hh1 ff1 tt1) ++ wPl Z L) ++ wLr Z (toM Z) lr (toK Z) (toV Z)) 0 C iX9_pass_65 rfl (vp_in_nI (n := 1) (by omega) (by omega)) rfl ?_
      rw [show Int32.toNatClampNeg 1 = 1 from rfl]
      refine J_dup C iX9_pass_66 rfl ?_
      refine J_iconst 2 C iX9_pass_67 rfl ?_
      refine J_aload_n C iX9_pass_68 rfl rfl ?_
      refine J_iconst 3 C iX9_pass_69 rfl ?_
      refine J_iald (n := 4) (f := rowF p hh1 ff1 tt1 ((toV Z) k)) (((arrI Z n1 3 (upd (upd (fun _ => 0) 0 (nI (hh1 ((toV Z) k)))) 1 (cuI (ff1 ((toV Z) k)))) ++ wSim Z s (toN Z) (toM Z) hA lA oA tA eA (fun j => some (rw j)) (fun j => some (lr j)) fo ft fe dy cc1)).length + ((toV Z) k)) C iX9_pass_70 (mid_at (A := (arrI Z n1 3 (upd (upd (fun _ => 0) 0 (nI (hh1 ((toV Z) k)))) 1 (cuI (ff1 ((toV Z) k)))) ++ wSim Z s (toN Z) (toM Z) hA lA oA tA eA (fun j => some (rw j)) (fun j => some (lr j)) fo ft fe dy cc1)) (M := wRw Z (toN Z) rw p hh1 ff1 tt1) (B := (wPl Z L ++ wLr Z (toM Z) lr (toK Z) (toV Z))) (by simp only [List.append_assoc, List.append_nil, List.nil_append]) (wRw_at (by omega))) (vp_in_nI (n := 3) (by decide) (by decide)) ?_
      refine J_st (.int (cuI (tt1 ((toV Z) k))) :: .int 2 :: .ref n1 :: .ref n1 :: []) rfl ?_
      refine J_iast ((((arrI Z n1 3 (upd (upd (upd (fun _ => 0) 0 (nI (hh1 ((toV Z) k)))) 1 (cuI (ff1 ((toV Z) k)))) (Int32.toNatClampNeg 2) (cuI (tt1 ((toV Z) k)))) ++ wSim Z s (toN Z) (toM Z) hA lA oA tA eA (fun j => some (rw j)) (fun j => some (lr j)) fo ft fe dy cc1) ++ wRw Z (toN Z) rw p hh1 ff1 tt1) ++ wPl Z L) ++ wLr Z (toM Z) lr (toK Z) (toV Z)) 0 C iX9_pass_71 rfl (vp_in_nI (n := 2) (by omega) (by omega)) rfl ?_
      rw [show Int32.toNatClampNeg 2 = 2 from rfl]
      refine J_astore_n [(3, .ref n1), (2, .ref (rw ((toV Z) k))), (1, .int (nI k)), (0, .ref s)] C iX9_pass_72 rfl (by decide) rfl ?_
      rcases hkin with hk0 | hk0 | hk0
      · refine J_aload_n C iX9_pass_73 rfl rfl ?_
        refine J_get (.ref lA) 1 C iX9_pass_74 gf_X9_15 rfl rfl ?_
        refine J_iload_n C iX9_pass_77 rfl rfl ?_
        refine J_aaldA 3 C iX9_pass_78 rfl (vp_in_nI (n := k) (by omega) (by omega)) ?_
        rw [nI_clamp (n := k) (by omega)]
        refine J_st (.ref (lr k) :: []) rfl ?_
        refine J_iconst 0 C iX9_pass_79 rfl ?_
        refine J_iald (n := 2) (f := lrwF (toK Z) (toV Z) k) (((((arrI Z n1 3 (upd (upd (upd (fun _ => 0) 0 (nI (hh1 ((toV Z) k)))) 1 (cuI (ff1 ((toV Z) k)))) 2 (cuI (tt1 ((toV Z) k)))) ++ wSim Z s (toN Z) (toM Z) hA lA oA tA eA (fun j => some (rw j)) (fun j => some (lr j)) fo ft fe dy cc1) ++ wRw Z (toN Z) rw p hh1 ff1 tt1) ++ wPl Z L)).length + k) C iX9_pass_80 (mid_at (A := (((arrI Z n1 3 (upd (upd (upd (fun _ => 0) 0 (nI (hh1 ((toV Z) k)))) 1 (cuI (ff1 ((toV Z) k)))) 2 (cuI (tt1 ((toV Z) k)))) ++ wSim Z s (toN Z) (toM Z) hA lA oA tA eA (fun j => some (rw j)) (fun j => some (lr j)) fo ft fe dy cc1) ++ wRw Z (toN Z) rw p hh1 ff1 tt1) ++ wPl Z L)) (M := wLr Z (toM Z) lr (toK Z) (toV Z)) (B := []) (by simp only [List.append_assoc, List.append_nil, List.nil_append]) (wLr_at (by omega))) (vp_in_nI (n := 0) (by decide) (by decide)) ?_
        refine J_st (.int (nI ((toK Z) k)) :: []) rfl ?_
        rw [hk0]
        refine J_st (.int 0 :: []) rfl ?_
        refine J_ifne 142 C iX9_pass_81 rfl (fun h81 => absurd (by decide) h81) (fun h81 => ?_)
        refine J_aload_n C iX9_pass_84 rfl rfl ?_
        refine J_get (.ref oA) 1 C iX9_pass_85 gf_X9_20 rfl rfl ?_
        refine J_iload_n C iX9_pass_88 rfl rfl ?_
        refine J_aaldT 4 C iX9_pass_89 rfl (vp_in_nI (n := k) (by omega) (by omega)) ?_
        rw [nI_clamp (n := k) (by omega)]
        rw [eo9]
        refine J_st (.ref ao :: []) rfl ?_
        refine J_aload_n C iX9_pass_90 rfl rfl ?_
        obtain ⟨j1, e1, f1⟩ := InT.at ho
        refine J_cVb (As := [.ref s]) (st := []) (rc2 := 0 + 1 * (1 * (4 - (k + 1)))) (rs2 := 0 + 1 * (3 * (4 - (k + 1)))) (w0 := ((wSim Z s (toN Z) (toM Z) hA lA oA tA eA (fun j => some (rw j)) (fun j => some (lr j)) fo ft fe dy cc1 ++ wRw Z (toN Z) rw p hh1 ff1 tt1) ++ wPl Z L)) (q0 := ((wSim Z s (toN Z) (toM Z) hA lA oA tA eA (fun j => some (rw j)) (fun j => some (lr j)) fo ft fe dy cc1 ++ wRw Z (toN Z) rw p hh1 ff1 tt1)).length + j1) C iX9_pass_91 lm_X9_63 yc_X10_of yv_X10_of (c_X10_of (p := p) (h := hh1) (f := ff1) (t := tt1) hI2 (by omega) 2 ho) rfl rfl (mid_at (A := (wSim Z s (toN Z) (toM Z) hA lA oA tA eA (fun j => some (rw j)) (fun j => some (lr j)) fo ft fe dy cc1 ++ wRw Z (toN Z) rw p hh1 ff1 tt1)) (M := wPl Z L) (B := []) (by simp only [List.append_assoc, List.append_nil, List.nil_append]) (wPl_at f1)) (arrI Z n1 3 (upd (upd (upd (fun _ => 0) 0 (nI (hh1 ((toV Z) k)))) 1 (cuI (ff1 ((toV Z) k)))) 2 (cuI (tt1 ((toV Z) k))))) (wLr Z (toM Z) lr (toK Z) (toV Z)) (by simp only [List.append_assoc, List.append_nil, List.nil_append]) rfl (rmK_le (by omega) (by decide)) (Nat.le_of_ble_eq_true rfl) (Nat.zero_add _).symm (Nat.zero_add _).symm ?_
        rintro _ _ ⟨rfl, rfl⟩
        refine J_st (.int (ofN (toN Z) dy p hh1 ff1 tt1 2 (oneQ Z k)) :: []) rfl ?_
        refine J_ws ((((arrI Z n1 3 (upd (upd (upd (fun _ => 0) 0 (nI (hh1 ((toV Z) k)))) 1 (cuI (ff1 ((toV Z) k)))) 2 (cuI (tt1 ((toV Z) k)))) ++ wSim Z s (toN Z) (toM Z) hA lA oA tA eA (fun j => some (rw j)) (fun j => some (lr j)) fo ft fe dy cc1) ++ wRw Z (toN Z) rw p hh1 ff1 tt1) ++ wPl Z L) ++ wLr Z (toM Z) lr (toK Z) (toV Z)) (by simp only [List.append_assoc, List.append_nil, List.nil_append]) ?_
        refine J_bipush 6 C iX9_pass_94 rfl ?_
        refine J_bipush 18 C iX9_pass_96 rfl ?_
        refine J_cSb (As := [.int (ofN (toN Z) dy p hh1 ff1 tt1 2 (oneQ Z k)), .int 6, .int 18]) (st := []) (rc2 := 0 + 1 * (1 * (4 - (k + 1)))) (rs2 := 0 + 1 * (3 * (4 - (k + 1)))) (w0 := []) C iX9_pass_98 lm_X9_67 yc_X9_held ys_X9_held (c_X9_held (v := ofN (toN Z) dy p hh1 ff1 tt1 2 (oneQ Z k)) (lo := 6) (hi := 18)) [] ((((arrI Z n1 3 (upd (upd (upd (fun _ => 0) 0 (nI (hh1 ((toV Z) k)))) 1 (cuI (ff1 ((toV Z) k)))) 2 (cuI (tt1 ((toV Z) k)))) ++ wSim Z s (toN Z) (toM Z) hA lA oA tA eA (fun j => some (rw j)) (fun j => some (lr j)) fo ft fe dy cc1) ++ wRw Z (toN Z) rw p hh1 ff1 tt1) ++ wPl Z L) ++ wLr Z (toM Z) lr (toK Z) (toV Z)) (by simp only [List.append_assoc, List.append_nil, List.nil_append]) rfl (rmK_le (by omega) (by decide)) (Nat.le_of_ble_eq_true rfl) (Nat.zero_add _).symm (Nat.zero_add _).symm ?_
        rintro _ _ ⟨rfl, rfl⟩
        refine J_st (.int (hdI (ofN (toN Z) dy p hh1 ff1 tt1 2 (oneQ Z k)) 6 18) :: []) rfl ?_
        refine J_ws ((((arrI Z n1 3 (upd (upd (upd (fun _ => 0) 0 (nI (hh1 ((toV Z) k)))) 1 (cuI (ff1 ((toV Z) k)))) 2 (cuI (tt1 ((toV Z) k)))) ++ wSim Z s (toN Z) (toM Z) hA lA oA tA eA (fun j => some (rw j)) (fun j => some (lr j)) fo ft fe dy cc1) ++ wRw Z (toN Z) rw p hh1 ff1 tt1) ++ wPl Z L) ++ wLr Z (toM Z) lr (toK Z) (toV Z)) (by simp only [List.append_assoc, List.append_nil, List.nil_append]) ?_
        rw [(hd_cl _).1]
        refine J_istore [(4, .int (nI (clN (ofN (toN Z) dy p hh1 ff1 tt1 2 (oneQ Z k))))), (3, .ref n1), (2, .ref (rw ((toV Z) k))), (1, .int (nI k)), (0, .ref s)] C iX9_pass_101 (by decide) rfl ?_
        refine J_aload_n C iX9_pass_103 rfl rfl ?_
        refine J_get (.ref tA) 1 C iX9_pass_104 gf_X9_24 rfl rfl ?_
        refine J_iload_n C iX9_pass_107 rfl rfl ?_
        refine J_aaldT 5 C iX9_pass_108 rfl (vp_in_nI (n := k) (by omega) (by omega)) ?_
        rw [nI_clamp (n := k) (by omega)]
        rw [et9]
        refine J_st (.ref at_ :: []) rfl ?_
        refine J_aload_n C iX9_pass_109 rfl rfl ?_
        obtain ⟨j2, e2, f2⟩ := InT.at ht
        refine J_cVb (As := [.ref s]) (st := []) (rc2 := 0 + 1 * (1 * (4 - (k + 1)))) (rs2 := 0 + 1 * (3 * (4 - (k + 1)))) (w0 := ((wSim Z s (toN Z) (toM Z) hA lA oA tA eA (fun j => some (rw j)) (fun j => some (lr j)) fo ft fe dy cc1 ++ wRw Z (toN Z) rw p hh1 ff1 tt1) ++ wPl Z L)) (q0 := ((wSim Z s (toN Z) (toM Z) hA lA oA tA eA (fun j => some (rw j)) (fun j => some (lr j)) fo ft fe dy cc1 ++ wRw Z (toN Z) rw p hh1 ff1 tt1)).length + j2) C iX9_pass_110 lm_X9_63 yc_X10_of yv_X10_of (c_X10_of (p := p) (h := hh1) (f := ff1) (t := tt1) hI2 (by omega) 2 ht) rfl rfl (mid_at (A := (wSim Z s (toN Z) (toM Z) hA lA oA tA eA (fun j => some (rw j)) (fun j => some (lr j)) fo ft fe dy cc1 ++ wRw Z (toN Z) rw p hh1 ff1 tt1)) (M := wPl Z L) (B := []) (by simp only [List.append_assoc, List.append_nil, List.nil_append]) (wPl_at f2)) (arrI Z n1 3 (upd (upd (upd (fun _ => 0) 0 (nI (hh1 ((toV Z) k)))) 1 (cuI (ff1 ((toV Z) k)))) 2 (cuI (tt1 ((toV Z) k))))) (wLr Z (toM Z) lr (toK Z) (toV Z)) (by simp only [List.append_assoc, List.append_nil, List.nil_append]) rfl (rmK_le (by omega) (by decide)) (Nat.le_of_ble_eq_true rfl) (Nat.zero_add _).symm (Nat.zero_add _).symm ?_
        rintro _ _ ⟨rfl, rfl⟩
        refine J_st (.int (ofN (toN Z) dy p hh1 ff1 tt1 2 (twoQ Z k)) :: []) rfl ?_
        refine J_ws ((((arrI Z n1 3 (upd (upd (upd (fun _ => 0) 0 (nI (hh1 ((toV Z) k)))) 1 (cuI (ff1 ((toV Z) k)))) 2 (cuI (tt1 ((toV Z) k)))) ++ wSim Z s (toN Z) (toM Z) hA lA oA tA eA (fun j => some (rw j)) (fun j => some (lr j)) fo ft fe dy cc1) ++ wRw Z (toN Z) rw p hh1 ff1 tt1) ++ wPl Z L) ++ wLr Z (toM Z) lr (toK Z) (toV Z)) (by simp only [List.append_assoc, List.append_nil, List.nil_append]) ?_
        refine J_bipush 6 C iX9_pass_113 rfl ?_
        refine J_bipush 18 C iX9_pass_115 rfl ?_
        refine J_cSb (As := [.int (ofN (toN Z) dy p hh1 ff1 tt1 2 (twoQ Z k)), .int 6, .int 18]) (st := []) (rc2 := 0 + 1 * (1 * (4 - (k + 1)))) (rs2 := 0 + 1 * (3 * (4 - (k + 1)))) (w0 := []) C iX9_pass_117 lm_X9_67 yc_X9_held ys_X9_held (c_X9_held (v := ofN (toN Z) dy p hh1 ff1 tt1 2 (twoQ Z k)) (lo := 6) (hi := 18)) [] ((((arrI Z n1 3 (upd (upd (upd (fun _ => 0) 0 (nI (hh1 ((toV Z) k)))) 1 (cuI (ff1 ((toV Z) k)))) 2 (cuI (tt1 ((toV Z) k)))) ++ wSim Z s (toN Z) (toM Z) hA lA oA tA eA (fun j => some (rw j)) (fun j => some (lr j)) fo ft fe dy cc1) ++ wRw Z (toN Z) rw p hh1 ff1 tt1) ++ wPl Z L) ++ wLr Z (toM Z) lr (toK Z) (toV Z)) (by simp only [List.append_assoc, List.append_nil, List.nil_append]) rfl (rmK_le (by omega) (by decide)) (Nat.le_of_ble_eq_true rfl) (Nat.zero_add _).symm (Nat.zero_add _).symm ?_
        rintro _ _ ⟨rfl, rfl⟩
        refine J_st (.int (hdI (ofN (toN Z) dy p hh1 ff1 tt1 2 (twoQ Z k)) 6 18) :: []) rfl ?_
        refine J_ws ((((arrI Z n1 3 (upd (upd (upd (fun _ => 0) 0 (nI (hh1 ((toV Z) k)))) 1 (cuI (ff1 ((toV Z) k)))) 2 (cuI (tt1 ((toV Z) k)))) ++ wSim Z s (toN Z) (toM Z) hA lA oA tA eA (fun j => some (rw j)) (fun j => some (lr j)) fo ft fe dy cc1) ++ wRw Z (toN Z) rw p hh1 ff1 tt1) ++ wPl Z L) ++ wLr Z (toM Z) lr (toK Z) (toV Z)) (by simp only [List.append_assoc, List.append_nil, List.nil_append]) ?_
        rw [(hd_cl _).1]
        refine J_istore [(5, .int (nI (clN (ofN (toN Z) dy p hh1 ff1 tt1 2 (twoQ Z k))))), (4, .int (nI (clN (ofN (toN Z) dy p hh1 ff1 tt1 2 (oneQ Z k))))), (3, .ref n1), (2, .ref (rw ((toV Z) k))), (1, .int (nI k)), (0, .ref s)] C iX9_pass_120 (by decide) rfl ?_
        obtain ⟨-, hb1, hb2⟩ := hd_cl (ofN (toN Z) dy p hh1 ff1 tt1 2 (oneQ Z k))
        obtain ⟨-, hb3, hb4⟩ := hd_cl (ofN (toN Z) dy p hh1 ff1 tt1 2 (twoQ Z k))
        refine J_iload C iX9_pass_122 rfl ?_
        refine J_iload C iX9_pass_124 rfl ?_
        by_cases hbe : clN (ofN (toN Z) dy p hh1 ff1 tt1 2 (oneQ Z k)) ≤ clN (ofN (toN Z) dy p hh1 ff1 tt1 2 (twoQ Z k))
        · refine J_icmpgt 139 C iX9_pass_126 rfl (fun h126 => absurd h126 (nI_nlt (a := (clN (ofN (toN Z) dy p hh1 ff1 tt1 2 (twoQ Z k)))) (b := (clN (ofN (toN Z) dy p hh1 ff1 tt1 2 (oneQ Z k)))) (by omega) (by omega))) (fun h126 => ?_)
          refine J_aload_n C iX9_pass_129 rfl rfl ?_
          refine J_iconst 2 C iX9_pass_130 rfl ?_
          refine J_iload C iX9_pass_131 rfl ?_
          refine J_iast (n := 4) (f := rowF p hh1 ff1 tt1 ((toV Z) k)) ((((arrI Z n1 3 (upd (upd (upd (fun _ => 0) 0 (nI (hh1 ((toV Z) k)))) 1 (cuI (ff1 ((toV Z) k)))) 2 (cuI (tt1 ((toV Z) k)))) ++ wSim Z s (toN Z) (toM Z) hA lA oA tA eA (fun j => some (rw j)) (fun j => some (lr j)) fo ft fe dy cc1) ++ wRw Z (toN Z) rw p hh1 (upN ff1 ((toV Z) k) (clN (ofN (toN Z) dy p hh1 ff1 tt1 2 (oneQ Z k)))) tt1) ++ wPl Z L) ++ wLr Z (toM Z) lr (toK Z) (toV Z)) (((arrI Z n1 3 (upd (upd (upd (fun _ => 0) 0 (nI (hh1 ((toV Z) k)))) 1 (cuI (ff1 ((toV Z) k)))) 2 (cuI (tt1 ((toV Z) k)))) ++ wSim Z s (toN Z) (toM Z) hA lA oA tA eA (fun j => some (rw j)) (fun j => some (lr j)) fo ft fe dy cc1)).length + ((toV Z) k)) C iX9_pass_133 (mid_at (A := (arrI Z n1 3 (upd (upd (upd (fun _ => 0) 0 (nI (hh1 ((toV Z) k)))) 1 (cuI (ff1 ((toV Z) k)))) 2 (cuI (tt1 ((toV Z) k)))) ++ wSim Z s (toN Z) (toM Z) hA lA oA tA eA (fun j => some (rw j)) (fun j => some (lr j)) fo ft fe dy cc1)) (M := wRw Z (toN Z) rw p hh1 ff1 tt1) (B := (wPl Z L ++ wLr Z (toM Z) lr (toK Z) (toV Z))) (by simp only [List.append_assoc, List.append_nil, List.nil_append]) (wRw_at (by omega))) (vp_in_nI (n := 2) (by decide) (by decide)) ?_ ?_
          · rw [show Int32.toNatClampNeg 2 = 2 from rfl]; rw [show nI (clN (ofN (toN Z) dy p hh1 ff1 tt1 2 (oneQ Z k))) = cuI (clN (ofN (toN Z) dy p hh1 ff1 tt1 2 (oneQ Z k))) from (cu_nI (by omega)).symm]; exact (mid_set (A := (arrI Z n1 3 (upd (upd (upd (fun _ => 0) 0 (nI (hh1 ((toV Z) k)))) 1 (cuI (ff1 ((toV Z) k)))) 2 (cuI (tt1 ((toV Z) k)))) ++ wSim Z s (toN Z) (toM Z) hA lA oA tA eA (fun j => some (rw j)) (fun j => some (lr j)) fo ft fe dy cc1)) (M := wRw Z (toN Z) rw p hh1 ff1 tt1) (B := (wPl Z L ++ wLr Z (toM Z) lr (toK Z) (toV Z))) (by simp only [List.append_assoc, List.append_nil, List.nil_append]) (by rw [wRw_len]; omega) (wRw_set (by omega) row_f (fun j hj hne => by simp [upN, hne]))).trans (by simp only [List.append_assoc, List.append_nil, List.nil_append])
          refine J_aload_n C iX9_pass_134 rfl rfl ?_
          refine J_iconst 3 C iX9_pass_135 rfl ?_
          refine J_iload C iX9_pass_136 rfl ?_
          refine J_iast (n := 4) (f := rowF p hh1 (upN ff1 ((toV Z) k) (clN (ofN (toN Z) dy p hh1 ff1 tt1 2 (oneQ Z k)))) tt1 ((toV Z) k)) ((((arrI Z n1 3 (upd (upd (upd (fun _ => 0) 0 (nI (hh1 ((toV Z) k)))) 1 (cuI (ff1 ((toV Z) k)))) 2 (cuI (tt1 ((toV Z) k)))) ++ wSim Z s (toN Z) (toM Z) hA lA oA tA eA (fun j => some (rw j)) (fun j => some (lr j)) fo ft fe dy cc1) ++ wRw Z (toN Z) rw p hh1 (upN ff1 ((toV Z) k) (clN (ofN (toN Z) dy p hh1 ff1 tt1 2 (oneQ Z k)))) (upN tt1 ((toV Z) k) (clN (ofN (toN Z) dy p hh1 ff1 tt1 2 (twoQ Z k))))) ++ wPl Z L) ++ wLr Z (toM Z) lr (toK Z) (toV Z)) (((arrI Z n1 3 (upd (upd (upd (fun _ => 0) 0 (nI (hh1 ((toV Z) k)))) 1 (cuI (ff1 ((toV Z) k)))) 2 (cuI (tt1 ((toV Z) k)))) ++ wSim Z s (toN Z) (toM Z) hA lA oA tA eA (fun j => some (rw j)) (fun j => some (lr j)) fo ft fe dy cc1)).length + ((toV Z) k)) C iX9_pass_138 (mid_at (A := (arrI Z n1 3 (upd (upd (upd (fun _ => 0) 0 (nI (hh1 ((toV Z) k)))) 1 (cuI (ff1 ((toV Z) k)))) 2 (cuI (tt1 ((toV Z) k)))) ++ wSim Z s (toN Z) (toM Z) hA lA oA tA eA (fun j => some (rw j)) (fun j => some (lr j)) fo ft fe dy cc1)) (M := wRw Z (toN Z) rw p hh1 (upN ff1 ((toV Z) k) (clN (ofN (toN Z) dy p hh1 ff1 tt1 2 (oneQ Z k)))) tt1) (B := (wPl Z L ++ wLr Z (toM Z) lr (toK Z) (toV Z))) (by simp only [List.append_assoc, List.append_nil, List.nil_append]) (wRw_at (by omega))) (vp_in_nI (n := 3) (by decide) (by decide)) ?_ ?_
          · rw [show Int32.toNatClampNeg 3 = 3 from rfl]; rw [show nI (clN (ofN (toN Z) dy p hh1 ff1 tt1 2 (twoQ Z k))) = cuI (clN (ofN (toN Z) dy p hh1 ff1 tt1 2 (twoQ Z k))) from (cu_nI (by omega)).symm]; exact (mid_set (A := (arrI Z n1 3 (upd (upd (upd (fun _ => 0) 0 (nI (hh1 ((toV Z) k)))) 1 (cuI (ff1 ((toV Z) k)))) 2 (cuI (tt1 ((toV Z) k)))) ++ wSim Z s (toN Z) (toM Z) hA lA oA tA eA (fun j => some (rw j)) (fun j => some (lr j)) fo ft fe dy cc1)) (M := wRw Z (toN Z) rw p hh1 (upN ff1 ((toV Z) k) (clN (ofN (toN Z) dy p hh1 ff1 tt1 2 (oneQ Z k)))) tt1) (B := (wPl Z L ++ wLr Z (toM Z) lr (toK Z) (toV Z))) (by simp only [List.append_assoc, List.append_nil, List.nil_append]) (by rw [wRw_len]; omega) (wRw_set (by omega) row_t (fun j hj hne => by simp [upN, hne]))).trans (by simp only [List.append_assoc, List.append_nil, List.nil_append])
          refine J_goto 195 C iX9_pass_139 rfl ?_
          have h3 : pd3 Z p dy hh1 ff1 tt1 k = (hh1, upN ff1 ((toV Z) k) (clN (ofN (toN Z) dy p hh1 ff1 tt1 2 (oneQ Z k))), upN tt1 ((toV Z) k) (clN (ofN (toN Z) dy p hh1 ff1 tt1 2 (twoQ Z k)))) := by rw [pd3, if_pos hk0, if_pos hbe]
          have ok3 : SnOk (toN Z) p hh1 (upN ff1 ((toV Z) k) (clN (ofN (toN Z) dy p hh1 ff1 tt1 2 (oneQ Z k)))) (upN tt1 ((toV Z) k) (clN (ofN (toN Z) dy p hh1 ff1 tt1 2 (twoQ Z k)))) := (hI2.upC (Or.inr ⟨hb1, hbe, hb4⟩))
          generalize upN ff1 ((toV Z) k) (clN (ofN (toN Z) dy p hh1 ff1 tt1 2 (oneQ Z k))) = f3_ at h3 ok3 ⊢
          generalize upN tt1 ((toV Z) k) (clN (ofN (toN Z) dy p hh1 ff1 tt1 2 (twoQ Z k))) = t3_ at h3 ok3 ⊢
          have hv3 := (ok3.2 (toV Z k) hvl)
          refine J_aload_n C iX9_pass_195 rfl rfl ?_
          refine J_dup C iX9_pass_196 rfl ?_
          refine J_get (.int cc1) 1 C iX9_pass_197 gf_X9_39 rfl rfl ?_
          refine J_aload_n C iX9_pass_200 rfl rfl ?_
          refine J_iconst 1 C iX9_pass_201 rfl ?_
          refine J_iald (n := 4) (f := rowF p hh1 f3_ t3_ ((toV Z) k)) (((arrI Z n1 3 (upd (upd (upd (fun _ => 0) 0 (nI (hh1 ((toV Z) k)))) 1 (cuI (ff1 ((toV Z) k)))) 2 (cuI (tt1 ((toV Z) k)))) ++ wSim Z s (toN Z) (toM Z) hA lA oA tA eA (fun j => some (rw j)) (fun j => some (lr j)) fo ft fe dy cc1)).length + ((toV Z) k)) C iX9_pass_202 (mid_at (A := (arrI Z n1 3 (upd (upd (upd (fun _ => 0) 0 (nI (hh1 ((toV Z) k)))) 1 (cuI (ff1 ((toV Z) k)))) 2 (cuI (tt1 ((toV Z) k)))) ++ wSim Z s (toN Z) (toM Z) hA lA oA tA eA (fun j => some (rw j)) (fun j => some (lr j)) fo ft fe dy cc1)) (M := wRw Z (toN Z) rw p hh1 f3_ t3_) (B := (wPl Z L ++ wLr Z (toM Z) lr (toK Z) (toV Z))) (by simp only [List.append_assoc, List.append_nil, List.nil_append]) (wRw_at (by omega))) (vp_in_nI (n := 1) (by decide) (by decide)) ?_
          refine J_st (.int (nI (hh1 ((toV Z) k))) :: .int cc1 :: .ref s :: []) rfl ?_
          refine J_aload_n C iX9_pass_203 rfl rfl ?_
          refine J_iconst 0 C iX9_pass_204 rfl ?_
          refine J_iald 0 C iX9_pass_205 rfl (vp_in_nI (n := 0) (by omega) (by omega)) ?_
          rw [show Int32.toNatClampNeg 0 = 0 from rfl]
          by_cases he1 : hh1 (toV Z k) = hh1 (toV Z k)
          · refine J_icmpne 231 C iX9_pass_206 rfl (fun h206 => absurd (show nI (hh1 (toV Z k)) = nI (hh1 (toV Z k)) from congrArg nI he1) h206) (fun h206 => ?_)
            refine J_aload_n C iX9_pass_209 rfl rfl ?_
            refine J_iconst 2 C iX9_pass_210 rfl ?_
            refine J_iald (n := 4) (f := rowF p hh1 f3_ t3_ ((toV Z) k)) (((arrI Z n1 3 (upd (upd (upd (fun _ => 0) 0 (nI (hh1 ((toV Z) k)))) 1 (cuI (ff1 ((toV Z) k)))) 2 (cuI (tt1 ((toV Z) k)))) ++ wSim Z s (toN Z) (toM Z) hA lA oA tA eA (fun j => some (rw j)) (fun j => some (lr j)) fo ft fe dy cc1)).length + ((toV Z) k)) C iX9_pass_211 (mid_at (A := (arrI Z n1 3 (upd (upd (upd (fun _ => 0) 0 (nI (hh1 ((toV Z) k)))) 1 (cuI (ff1 ((toV Z) k)))) 2 (cuI (tt1 ((toV Z) k)))) ++ wSim Z s (toN Z) (toM Z) hA lA oA tA eA (fun j => some (rw j)) (fun j => some (lr j)) fo ft fe dy cc1)) (M := wRw Z (toN Z) rw p hh1 f3_ t3_) (B := (wPl Z L ++ wLr Z (toM Z) lr (toK Z) (toV Z))) (by simp only [List.append_assoc, List.append_nil, List.nil_append]) (wRw_at (by omega))) (vp_in_nI (n := 2) (by decide) (by decide)) ?_
            refine J_st (.int (cuI (f3_ ((toV Z) k))) :: .int cc1 :: .ref s :: []) rfl ?_
            refine J_aload_n C iX9_pass_212 rfl rfl ?_
            refine J_iconst 1 C iX9_pass_213 rfl ?_
            refine J_iald 0 C iX9_pass_214 rfl (vp_in_nI (n := 1) (by omega) (by omega)) ?_
            rw [show Int32.toNatClampNeg 1 = 1 from rfl]
            by_cases he2 : f3_ (toV Z k) = ff1 (toV Z k)
            · refine J_icmpne 231 C iX9_pass_215 rfl (fun h215 => absurd (show cuI (f3_ (toV Z k)) = cuI (ff1 (toV Z k)) from congrArg cuI he2) h215) (fun h215 => ?_)
              refine J_aload_n C iX9_pass_218 rfl rfl ?_
              refine J_iconst 3 C iX9_pass_219 rfl ?_
              refine J_iald (n := 4) (f := rowF p hh1 f3_ t3_ ((toV Z) k)) (((arrI Z n1 3 (upd (upd (upd (fun _ => 0) 0 (nI (hh1 ((toV Z) k)))) 1 (cuI (ff1 ((toV Z) k)))) 2 (cuI (tt1 ((toV Z) k)))) ++ wSim Z s (toN Z) (toM Z) hA lA oA tA eA (fun j => some (rw j)) (fun j => some (lr j)) fo ft fe dy cc1)).length + ((toV Z) k)) C iX9_pass_220 (mid_at (A := (arrI Z n1 3 (upd (upd (upd (fun _ => 0) 0 (nI (hh1 ((toV Z) k)))) 1 (cuI (ff1 ((toV Z) k)))) 2 (cuI (tt1 ((toV Z) k)))) ++ wSim Z s (toN Z) (toM Z) hA lA oA tA eA (fun j => some (rw j)) (fun j => some (lr j)) fo ft fe dy cc1)) (M := wRw Z (toN Z) rw p hh1 f3_ t3_) (B := (wPl Z L ++ wLr Z (toM Z) lr (toK Z) (toV Z))) (by simp only [List.append_assoc, List.append_nil, List.nil_append]) (wRw_at (by omega))) (vp_in_nI (n := 3) (by decide) (by decide)) ?_
              refine J_st (.int (cuI (t3_ ((toV Z) k))) :: .int cc1 :: .ref s :: []) rfl ?_
              refine J_aload_n C iX9_pass_221 rfl rfl ?_
              refine J_iconst 2 C iX9_pass_222 rfl ?_
              refine J_iald 0 C iX9_pass_223 rfl (vp_in_nI (n := 2) (by omega) (by omega)) ?_
              rw [show Int32.toNatClampNeg 2 = 2 from rfl]
              by_cases he3 : t3_ (toV Z k) = tt1 (toV Z k)
              · refine J_icmpne 231 C iX9_pass_224 rfl (fun h224 => absurd (show cuI (t3_ (toV Z k)) = cuI (tt1 (toV Z k)) from congrArg cuI he3) h224) (fun h224 => ?_)
                refine J_iconst 0 C iX9_pass_227 rfl ?_
                refine J_goto 232 C iX9_pass_228 rfl ?_
                refine J_iadd C iX9_pass_232 ?_
                refine J_put ((((arrI Z n1 3 (upd (upd (upd (fun _ => 0) 0 (nI (hh1 ((toV Z) k)))) 1 (cuI (ff1 ((toV Z) k)))) 2 (cuI (tt1 ((toV Z) k)))) ++ wSim Z s (toN Z) (toM Z) hA lA oA tA eA (fun j => some (rw j)) (fun j => some (lr j)) fo ft fe dy (cc1 + 0)) ++ wRw Z (toN Z) rw p hh1 f3_ t3_) ++ wPl Z L) ++ wLr Z (toM Z) lr (toK Z) (toV Z)) 1 C iX9_pass_233 pf_X9_39 rfl rfl rfl (Nat.le_of_ble_eq_true rfl) rfl ?_
                refine J_drop [] (arrI Z n1 3 (upd (upd (upd (fun _ => 0) 0 (nI (hh1 ((toV Z) k)))) 1 (cuI (ff1 ((toV Z) k)))) 2 (cuI (tt1 ((toV Z) k))))) (((wSim Z s (toN Z) (toM Z) hA lA oA tA eA (fun j => some (rw j)) (fun j => some (lr j)) fo ft fe dy (cc1 + 0) ++ wRw Z (toN Z) rw p hh1 f3_ t3_) ++ wPl Z L) ++ wLr Z (toM Z) lr (toK Z) (toV Z)) (by simp only [List.append_assoc, List.append_nil, List.nil_append]) ?_
                refine J_ws (((wSim Z s (toN Z) (toM Z) hA lA oA tA eA (fun j => some (rw j)) (fun j => some (lr j)) fo ft fe dy (cc1 + 0) ++ wRw Z (toN Z) rw p hh1 f3_ t3_) ++ wPl Z L) ++ wLr Z (toM Z) lr (toK Z) (toV Z)) (by simp only [List.append_assoc, List.append_nil, List.nil_append]) ?_
                refine J_iinc ((nI k) + 1) [(1, .int ((nI k) + 1)), (5, .int (nI (clN (ofN (toN Z) dy p hh1 ff1 tt1 2 (twoQ Z k))))), (4, .int (nI (clN (ofN (toN Z) dy p hh1 ff1 tt1 2 (oneQ Z k))))), (3, .ref n1), (2, .ref (rw ((toV Z) k))), (0, .ref s)] C iX9_pass_236 rfl rfl (by decide) rfl ?_
                rw [show (nI k) + 1 = nI (k + 1) from nI_add _ _]
                refine J_goto 2 C iX9_pass_239 rfl ?_
                refine J_lvm [(1, .int (nI (k + 1))), (0, .ref s)] rfl ?_
                refine J_room (rc2 := 1 * (4 - (k + 1))) (rs2 := 3 * (4 - (k + 1))) (by omega) (by omega) ?_
                exact ih (hh1, f3_, t3_, (cc1 + 0)) ⟨by rw [pdN, hI1]; exact pdS_yes hgo h3 (if_pos ⟨he1, he2, he3⟩), ok3⟩
              · refine J_icmpne 231 C iX9_pass_224 rfl (fun h224 => ?_) (fun h224 => absurd h224 (fun e => he3 ((cu_inj (by omega) (by omega)).mp e)))
                refine J_iconst 1 C iX9_pass_231 rfl ?_
                refine J_iadd C iX9_pass_232 ?_
                refine J_put ((((arrI Z n1 3 (upd (upd (upd (fun _ => 0) 0 (nI (hh1 ((toV Z) k)))) 1 (cuI (ff1 ((toV Z) k)))) 2 (cuI (tt1 ((toV Z) k)))) ++ wSim Z s (toN Z) (toM Z) hA lA oA tA eA (fun j => some (rw j)) (fun j => some (lr j)) fo ft fe dy (cc1 + 1)) ++ wRw Z (toN Z) rw p hh1 f3_ t3_) ++ wPl Z L) ++ wLr Z (toM Z) lr (toK Z) (toV Z)) 1 C iX9_pass_233 pf_X9_39 rfl rfl rfl (Nat.le_of_ble_eq_true rfl) rfl ?_
                refine J_drop [] (arrI Z n1 3 (upd (upd (upd (fun _ => 0) 0 (nI (hh1 ((toV Z) k)))) 1 (cuI (ff1 ((toV Z) k)))) 2 (cuI (tt1 ((toV Z) k))))) (((wSim Z s (toN Z) (toM Z) hA lA oA tA eA (fun j => some (rw j)) (fun j => some (lr j)) fo ft fe dy (cc1 + 1) ++ wRw Z (toN Z) rw p hh1 f3_ t3_) ++ wPl Z L) ++ wLr Z (toM Z) lr (toK Z) (toV Z)) (by simp only [List.append_assoc, List.append_nil, List.nil_append]) ?_
                refine J_ws (((wSim Z s (toN Z) (toM Z) hA lA oA tA eA (fun j => some (rw j)) (fun j => some (lr j)) fo ft fe dy (cc1 + 1) ++ wRw Z (toN Z) rw p hh1 f3_ t3_) ++ wPl Z L) ++ wLr Z (toM Z) lr (toK Z) (toV Z)) (by simp only [List.append_assoc, List.append_nil, List.nil_append]) ?_
                refine J_iinc ((nI k) + 1) [(1, .int ((nI k) + 1)), (5, .int (nI (clN (ofN (toN Z) dy p hh1 ff1 tt1 2 (twoQ Z k))))), (4, .int (nI (clN (ofN (toN Z) dy p hh1 ff1 tt1 2 (oneQ Z k))))), (3, .ref n1), (2, .ref (rw ((toV Z) k))), (0, .ref s)] C iX9_pass_236 rfl rfl (by decide) rfl ?_
                rw [show (nI k) + 1 = nI (k + 1) from nI_add _ _]
                refine J_goto 2 C iX9_pass_239 rfl ?_
                refine J_lvm [(1, .int (nI (k + 1))), (0, .ref s)] rfl ?_
                refine J_room (rc2 := 1 * (4 - (k + 1))) (rs2 := 3 * (4 - (k + 1))) (by omega) (by omega) ?_
                exact ih (hh1, f3_, t3_, (cc1 + 1)) ⟨by rw [pdN, hI1]; exact pdS_yes hgo h3 (if_neg (fun q => he3 q.2.2)), ok3⟩
            · refine J_icmpne 231 C iX9_pass_215 rfl (fun h215 => ?_) (fun h215 => absurd h215 (fun e => he2 ((cu_inj (by omega) (by omega)).mp e)))
              refine J_iconst 1 C iX9_pass_231 rfl ?_
              refine J_iadd C iX9_pass_232 ?_
              refine J_put ((((arrI Z n1 3 (upd (upd (upd (fun _ => 0) 0 (nI (hh1 ((toV Z) k)))) 1 (cuI (ff1 ((toV Z) k)))) 2 (cuI (tt1 ((toV Z) k)))) ++ wSim Z s (toN Z) (toM Z) hA lA oA tA eA (fun j => some (rw j)) (fun j => some (lr j)) fo ft fe dy (cc1 + 1)) ++ wRw Z (toN Z) rw p hh1 f3_ t3_) ++ wPl Z L) ++ wLr Z (toM Z) lr (toK Z) (toV Z)) 1 C iX9_pass_233 pf_X9_39 rfl rfl rfl (Nat.le_of_ble_eq_true rfl) rfl ?_
              refine J_drop [] (arrI Z n1 3 (upd (upd (upd (fun _ => 0) 0 (nI (hh1 ((toV Z) k)))) 1 (cuI (ff1 ((toV Z) k)))) 2 (cuI (tt1 ((toV Z) k))))) (((wSim Z s (toN Z) (toM Z) hA lA oA tA eA (fun j => some (rw j)) (fun j => some (lr j)) fo ft fe dy (cc1 + 1) ++ wRw Z (toN Z) rw p hh1 f3_ t3_) ++ wPl Z L) ++ wLr Z (toM Z) lr (toK Z) (toV Z)) (by simp only [List.append_assoc, List.append_nil, List.nil_append]) ?_
              refine J_ws (((wSim Z s (toN Z) (toM Z) hA lA oA tA eA (fun j => some (rw j)) (fun j => some (lr j)) fo ft fe dy (cc1 + 1) ++ wRw Z (toN Z) rw p hh1 f3_ t3_) ++ wPl Z L) ++ wLr Z (toM Z) lr (toK Z) (toV Z)) (by simp only [List.append_assoc, List.append_nil, List.nil_append]) ?_
              refine J_iinc ((nI k) + 1) [(1, .int ((nI k) + 1)), (5, .int (nI (clN (ofN (toN Z) dy p hh1 ff1 tt1 2 (twoQ Z k))))), (4, .int (nI (clN (ofN (toN Z) dy p hh1 ff1 tt1 2 (oneQ Z k))))), (3, .ref n1), (2, .ref (rw ((toV Z) k))), (0, .ref s)] C iX9_pass_236 rfl rfl (by decide) rfl ?_
              rw [show (nI k) + 1 = nI (k + 1) from nI_add _ _]
              refine J_goto 2 C iX9_pass_239 rfl ?_
              refine J_lvm [(1, .int (nI (k + 1))), (0, .ref s)] rfl ?_
              refine J_room (rc2 := 1 * (4 - (k + 1))) (rs2 := 3 * (4 - (k + 1))) (by omega) (by omega) ?_
              exact ih (hh1, f3_, t3_, (cc1 + 1)) ⟨by rw [pdN, hI1]; exact pdS_yes hgo h3 (if_neg (fun q => he2 q.2.1)), ok3⟩
          · refine J_icmpne 231 C iX9_pass_206 rfl (fun h206 => ?_) (fun h206 => absurd h206 (fun e => he1 ((nI_eq (by omega) (by omega)).mp e)))
            refine J_iconst 1 C iX9_pass_231 rfl ?_
            refine J_iadd C iX9_pass_232 ?_
            refine J_put ((((arrI Z n1 3 (upd (upd (upd (fun _ => 0) 0 (nI (hh1 ((toV Z) k)))) 1 (cuI (ff1 ((toV Z) k)))) 2 (cuI (tt1 ((toV Z) k)))) ++ wSim Z s (toN Z) (toM Z) hA lA oA tA eA (fun j => some (rw j)) (fun j => some (lr j)) fo ft fe dy (cc1 + 1)) ++ wRw Z (toN Z) rw p hh1 f3_ t3_) ++ wPl Z L) ++ wLr Z (toM Z) lr (toK Z) (toV Z)) 1 C iX9_pass_233 pf_X9_39 rfl rfl rfl (Nat.le_of_ble_eq_true rfl) rfl ?_
            refine J_drop [] (arrI Z n1 3 (upd (upd (upd (fun _ => 0) 0 (nI (hh1 ((toV Z) k)))) 1 (cuI (ff1 ((toV Z) k)))) 2 (cuI (tt1 ((toV Z) k))))) (((wSim Z s (toN Z) (toM Z) hA lA oA tA eA (fun j => some (rw j)) (fun j => some (lr j)) fo ft fe dy (cc1 + 1) ++ wRw Z (toN Z) rw p hh1 f3_ t3_) ++ wPl Z L) ++ wLr Z (toM Z) lr (toK Z) (toV Z)) (by simp only [List.append_assoc, List.append_nil, List.nil_append]) ?_
            refine J_ws (((wSim Z s (toN Z) (toM Z) hA lA oA tA eA (fun j => some (rw j)) (fun j => some (lr j)) fo ft fe dy (cc1 + 1) ++ wRw Z (toN Z) rw p hh1 f3_ t3_) ++ wPl Z L) ++ wLr Z (toM Z) lr (toK Z) (toV Z)) (by simp only [List.append_assoc, List.append_nil, List.nil_append]) ?_
            refine J_iinc ((nI k) + 1) [(1, .int ((nI k) + 1)), (5, .int (nI (clN (ofN (toN Z) dy p hh1 ff1 tt1 2 (twoQ Z k))))), (4, .int (nI (clN (ofN (toN Z) dy p hh1 ff1 tt1 2 (oneQ Z k))))), (3, .ref n1), (2, .ref (rw ((toV Z) k))), (0, .ref s)] C iX9_pass_236 rfl rfl (by decide) rfl ?_
            rw [show (nI k) + 1 = nI (k + 1) from nI_add _ _]
            refine J_goto 2 C iX9_pass_239 rfl ?_
            refine J_lvm [(1, .int (nI (k + 1))), (0, .ref s)] rfl ?_
            refine J_room (rc2 := 1 * (4 - (k + 1))) (rs2 := 3 * (4 - (k + 1))) (by omega) (by omega) ?_
            exact ih (hh1, f3_, t3_, (cc1 + 1)) ⟨by rw [pdN, hI1]; exact pdS_yes hgo h3 (if_neg (fun q => he1 q.1)), ok3⟩
        · refine J_icmpgt 139 C iX9_pass_126 rfl (fun h126 => ?_) (fun h126 => absurd (nI_lt (a := (clN (ofN (toN Z) dy p hh1 ff1 tt1 2 (twoQ Z k)))) (b := (clN (ofN (toN Z) dy p hh1 ff1 tt1 2 (oneQ Z k)))) (by omega) (by omega)) h126)
          refine J_goto 195 C iX9_pass_139 rfl ?_
          have h3 : pd3 Z p dy hh1 ff1 tt1 k = (hh1, ff1, tt1) := by rw [pd3, if_pos hk0, if_neg hbe]
          have ok3 : SnOk (toN Z) p hh1 ff1 tt1 := hI2
          have hv3 := (ok3.2 (toV Z k) hvl)
          refine J_aload_n C iX9_pass_195 rfl rfl ?_
          refine J_dup C iX9_pass_196 rfl ?_
          refine J_get (.int cc1) 1 C iX9_pass_197 gf_X9_39 rfl rfl ?_
          refine J_aload_n C iX9_pass_200 rfl rfl ?_
          refine J_iconst 1 C iX9_pass_201 rfl ?_
          refine J_iald (n := 4) (f := rowF p hh1 ff1 tt1 ((toV Z) k)) (((arrI Z n1 3 (upd (upd (upd (fun _ => 0) 0 (nI (hh1 ((toV Z) k)))) 1 (cuI (ff1 ((toV Z) k)))) 2 (cuI (tt1 ((toV Z) k)))) ++ wSim Z s (toN Z) (toM Z) hA lA oA tA eA (fun j => some (rw j)) (fun j => some (lr j)) fo ft fe dy cc1)).length + ((toV Z) k)) C iX9_pass_202 (mid_at (A := (arrI Z n1 3 (upd (upd (upd (fun _ => 0) 0 (nI (hh1 ((toV Z) k)))) 1 (cuI (ff1 ((toV Z) k)))) 2 (cuI (tt1 ((toV Z) k)))) ++ wSim Z s (toN Z) (toM Z) hA lA oA tA eA (fun j => some (rw j)) (fun j => some (lr j)) fo ft fe dy cc1)) (M := wRw Z (toN Z) rw p hh1 ff1 tt1) (B := (wPl Z L ++ wLr Z (toM Z) lr (toK Z) (toV Z))) (by simp only [List.append_assoc, List.append_nil, List.nil_append]) (wRw_at (by omega))) (vp_in_nI (n := 1) (by decide) (by decide)) ?_
          refine J_st (.int (nI (hh1 ((toV Z) k))) :: .int cc1 :: .ref s :: []) rfl ?_
          refine J_aload_n C iX9_pass_203 rfl rfl ?_
          refine J_iconst 0 C iX9_pass_204 rfl ?_
          refine J_iald 0 C iX9_pass_205 rfl (vp_in_nI (n := 0) (by omega) (by omega)) ?_
          rw [show Int32.toNatClampNeg 0 = 0 from rfl]
          by_cases he1 : hh1 (toV Z k) = hh1 (toV Z k)
          · refine J_icmpne 231 C iX9_pass_206 rfl (fun h206 => absurd (show nI (hh1 (toV Z k)) = nI (hh1 (toV Z k)) from congrArg nI he1) h206) (fun h206 => ?_)
            refine J_aload_n C iX9_pass_209 rfl rfl ?_
            refine J_iconst 2 C iX9_pass_210 rfl ?_
            refine J_iald (n := 4) (f := rowF p hh1 ff1 tt1 ((toV Z) k)) (((arrI Z n1 3 (upd (upd (upd (fun _ => 0) 0 (nI (hh1 ((toV Z) k)))) 1 (cuI (ff1 ((toV Z) k)))) 2 (cuI (tt1 ((toV Z) k)))) ++ wSim Z s (toN Z) (toM Z) hA lA oA tA eA (fun j => some (rw j)) (fun j => some (lr j)) fo ft fe dy cc1)).length + ((toV Z) k)) C iX9_pass_211 (mid_at (A := (arrI Z n1 3 (upd (upd (upd (fun _ => 0) 0 (nI (hh1 ((toV Z) k)))) 1 (cuI (ff1 ((toV Z) k)))) 2 (cuI (tt1 ((toV Z) k)))) ++ wSim Z s (toN Z) (toM Z) hA lA oA tA eA (fun j => some (rw j)) (fun j => some (lr j)) fo ft fe dy cc1)) (M := wRw Z (toN Z) rw p hh1 ff1 tt1) (B := (wPl Z L ++ wLr Z (toM Z) lr (toK Z) (toV Z))) (by simp only [List.append_assoc, List.append_nil, List.nil_append]) (wRw_at (by omega))) (vp_in_nI (n := 2) (by decide) (by decide)) ?_
            refine J_st (.int (cuI (ff1 ((toV Z) k))) :: .int cc1 :: .ref s :: []) rfl ?_
            refine J_aload_n C iX9_pass_212 rfl rfl ?_
            refine J_iconst 1 C iX9_pass_213 rfl ?_
            refine J_iald 0 C iX9_pass_214 rfl (vp_in_nI (n := 1) (by omega) (by omega)) ?_
            rw [show Int32.toNatClampNeg 1 = 1 from rfl]
            by_cases he2 : ff1 (toV Z k) = ff1 (toV Z k)
            · refine J_icmpne 231 C iX9_pass_215 rfl (fun h215 => absurd (show cuI (ff1 (toV Z k)) = cuI (ff1 (toV Z k)) from congrArg cuI he2) h215) (fun h215 => ?_)
              refine J_aload_n C iX9_pass_218 rfl rfl ?_
              refine J_iconst 3 C iX9_pass_219 rfl ?_
              refine J_iald (n := 4) (f := rowF p hh1 ff1 tt1 ((toV Z) k)) (((arrI Z n1 3 (upd (upd (upd (fun _ => 0) 0 (nI (hh1 ((toV Z) k)))) 1 (cuI (ff1 ((toV Z) k)))) 2 (cuI (tt1 ((toV Z) k)))) ++ wSim Z s (toN Z) (toM Z) hA lA oA tA eA (fun j => some (rw j)) (fun j => some (lr j)) fo ft fe dy cc1)).length + ((toV Z) k)) C iX9_pass_220 (mid_at (A := (arrI Z n1 3 (upd (upd (upd (fun _ => 0) 0 (nI (hh1 ((toV Z) k)))) 1 (cuI (ff1 ((toV Z) k)))) 2 (cuI (tt1 ((toV Z) k)))) ++ wSim Z s (toN Z) (toM Z) hA lA oA tA eA (fun j => some (rw j)) (fun j => some (lr j)) fo ft fe dy cc1)) (M := wRw Z (toN Z) rw p hh1 ff1 tt1) (B := (wPl Z L ++ wLr Z (toM Z) lr (toK Z) (toV Z))) (by simp only [List.append_assoc, List.append_nil, List.nil_append]) (wRw_at (by omega))) (vp_in_nI (n := 3) (by decide) (by decide)) ?_
              refine J_st (.int (cuI (tt1 ((toV Z) k))) :: .int cc1 :: .ref s :: []) rfl ?_
              refine J_aload_n C iX9_pass_221 rfl rfl ?_
              refine J_iconst 2 C iX9_pass_222 rfl ?_
              refine J_iald 0 C iX9_pass_223 rfl (vp_in_nI (n := 2) (by omega) (by omega)) ?_
              rw [show Int32.toNatClampNeg 2 = 2 from rfl]
              by_cases he3 : tt1 (toV Z k) = tt1 (toV Z k)
              · refine J_icmpne 231 C iX9_pass_224 rfl (fun h224 => absurd (show cuI (tt1 (toV Z k)) = cuI (tt1 (toV Z k)) from congrArg cuI he3) h224) (fun h224 => ?_)
                refine J_iconst 0 C iX9_pass_227 rfl ?_
                refine J_goto 232 C iX9_pass_228 rfl ?_
                refine J_iadd C iX9_pass_232 ?_
                refine J_put ((((arrI Z n1 3 (upd (upd (upd (fun _ => 0) 0 (nI (hh1 ((toV Z) k)))) 1 (cuI (ff1 ((toV Z) k)))) 2 (cuI (tt1 ((toV Z) k)))) ++ wSim Z s (toN Z) (toM Z) hA lA oA tA eA (fun j => some (rw j)) (fun j => some (lr j)) fo ft fe dy (cc1 + 0)) ++ wRw Z (toN Z) rw p hh1 ff1 tt1) ++ wPl Z L) ++ wLr Z (toM Z) lr (toK Z) (toV Z)) 1 C iX9_pass_233 pf_X9_39 rfl rfl rfl (Nat.le_of_ble_eq_true rfl) rfl ?_
                refine J_drop [] (arrI Z n1 3 (upd (upd (upd (fun _ => 0) 0 (nI (hh1 ((toV Z) k)))) 1 (cuI (ff1 ((toV Z) k)))) 2 (cuI (tt1 ((toV Z) k))))) (((wSim Z s (toN Z) (toM Z) hA lA oA tA eA (fun j => some (rw j)) (fun j => some (lr j)) fo ft fe dy (cc1 + 0) ++ wRw Z (toN Z) rw p hh1 ff1 tt1) ++ wPl Z L) ++ wLr Z (toM Z) lr (toK Z) (toV Z)) (by simp only [List.append_assoc, List.append_nil, List.nil_append]) ?_
                refine J_ws (((wSim Z s (toN Z) (toM Z) hA lA oA tA eA (fun j => some (rw j)) (fun j => some (lr j)) fo ft fe dy (cc1 + 0) ++ wRw Z (toN Z) rw p hh1 ff1 tt1) ++ wPl Z L) ++ wLr Z (toM Z) lr (toK Z) (toV Z)) (by simp only [List.append_assoc, List.append_nil, List.nil_append]) ?_
                refine J_iinc ((nI k) + 1) [(1, .int ((nI k) + 1)), (5, .int (nI (clN (ofN (toN Z) dy p hh1 ff1 tt1 2 (twoQ Z k))))), (4, .int (nI (clN (ofN (toN Z) dy p hh1 ff1 tt1 2 (oneQ Z k))))), (3, .ref n1), (2, .ref (rw ((toV Z) k))), (0, .ref s)] C iX9_pass_236 rfl rfl (by decide) rfl ?_
                rw [show (nI k) + 1 = nI (k + 1) from nI_add _ _]
                refine J_goto 2 C iX9_pass_239 rfl ?_
                refine J_lvm [(1, .int (nI (k + 1))), (0, .ref s)] rfl ?_
                refine J_room (rc2 := 1 * (4 - (k + 1))) (rs2 := 3 * (4 - (k + 1))) (by omega) (by omega) ?_
                exact ih (hh1, ff1, tt1, (cc1 + 0)) ⟨by rw [pdN, hI1]; exact pdS_yes hgo h3 (if_pos ⟨he1, he2, he3⟩), ok3⟩
              · refine J_icmpne 231 C iX9_pass_224 rfl (fun h224 => ?_) (fun h224 => absurd h224 (fun e => he3 ((cu_inj (by omega) (by omega)).mp e)))
                refine J_iconst 1 C iX9_pass_231 rfl ?_
                refine J_iadd C iX9_pass_232 ?_
                refine J_put ((((arrI Z n1 3 (upd (upd (upd (fun _ => 0) 0 (nI (hh1 ((toV Z) k)))) 1 (cuI (ff1 ((toV Z) k)))) 2 (cuI (tt1 ((toV Z) k)))) ++ wSim Z s (toN Z) (toM Z) hA lA oA tA eA (fun j => some (rw j)) (fun j => some (lr j)) fo ft fe dy (cc1 + 1)) ++ wRw Z (toN Z) rw p hh1 ff1 tt1) ++ wPl Z L) ++ wLr Z (toM Z) lr (toK Z) (toV Z)) 1 C iX9_pass_233 pf_X9_39 rfl rfl rfl (Nat.le_of_ble_eq_true rfl) rfl ?_
                refine J_drop [] (arrI Z n1 3 (upd (upd (upd (fun _ => 0) 0 (nI (hh1 ((toV Z) k)))) 1 (cuI (ff1 ((toV Z) k)))) 2 (cuI (tt1 ((toV Z) k))))) (((wSim Z s (toN Z) (toM Z) hA lA oA tA eA (fun j => some (rw j)) (fun j => some (lr j)) fo ft fe dy (cc1 + 1) ++ wRw Z (toN Z) rw p hh1 ff1 tt1) ++ wPl Z L) ++ wLr Z (toM Z) lr (toK Z) (toV Z)) (by simp only [List.append_assoc, List.append_nil, List.nil_append]) ?_
                refine J_ws (((wSim Z s (toN Z) (toM Z) hA lA oA tA eA (fun j => some (rw j)) (fun j => some (lr j)) fo ft fe dy (cc1 + 1) ++ wRw Z (toN Z) rw p hh1 ff1 tt1) ++ wPl Z L) ++ wLr Z (toM Z) lr (toK Z) (toV Z)) (by simp only [List.append_assoc, List.append_nil, List.nil_append]) ?_
                refine J_iinc ((nI k) + 1) [(1, .int ((nI k) + 1)), (5, .int (nI (clN (ofN (toN Z) dy p hh1 ff1 tt1 2 (twoQ Z k))))), (4, .int (nI (clN (ofN (toN Z) dy p hh1 ff1 tt1 2 (oneQ Z k))))), (3, .ref n1), (2, .ref (rw ((toV Z) k))), (0, .ref s)] C iX9_pass_236 rfl rfl (by decide) rfl ?_
                rw [show (nI k) + 1 = nI (k + 1) from nI_add _ _]
                refine J_goto 2 C iX9_pass_239 rfl ?_
                refine J_lvm [(1, .int (nI (k + 1))), (0, .ref s)] rfl ?_
                refine J_room (rc2 := 1 * (4 - (k + 1))) (rs2 := 3 * (4 - (k + 1))) (by omega) (by omega) ?_
                exact ih (hh1, ff1, tt1, (cc1 + 1)) ⟨by rw [pdN, hI1]; exact pdS_yes hgo h3 (if_neg (fun q => he3 q.2.2)), ok3⟩
            · refine J_icmpne 231 C iX9_pass_215 rfl (fun h215 => ?_) (fun h215 => absurd h215 (fun e => he2 ((cu_inj (by omega) (by omega)).mp e)))
              refine J_iconst 1 C iX9_pass_231 rfl ?_
              refine J_iadd C iX9_pass_232 ?_
              refine J_put ((((arrI Z n1 3 (upd (upd (upd (fun _ => 0) 0 (nI (hh1 ((toV Z) k)))) 1 (cuI (ff1 ((toV Z) k)))) 2 (cuI (tt1 ((toV Z) k)))) ++ wSim Z s (toN Z) (toM Z) hA lA oA tA eA (fun j => some (rw j)) (fun j => some (lr j)) fo ft fe dy (cc1 + 1)) ++ wRw Z (toN Z) rw p hh1 ff1 tt1) ++ wPl Z L) ++ wLr Z (toM Z) lr (toK Z) (toV Z)) 1 C iX9_pass_233 pf_X9_39 rfl rfl rfl (Nat.le_of_ble_eq_true rfl) rfl ?_
              refine J_drop [] (arrI Z n1 3 (upd (upd (upd (fun _ => 0) 0 (nI (hh1 ((toV Z) k)))) 1 (cuI (ff1 ((toV Z) k)))) 2 (cuI (tt1 ((toV Z) k))))) (((wSim Z s (toN Z) (toM Z) hA lA oA tA eA (fun j => some (rw j)) (fun j => some (lr j)) fo ft fe dy (cc1 + 1) ++ wRw Z (toN Z) rw p hh1 ff1 tt1) ++ wPl Z L) ++ wLr Z (toM Z) lr (toK Z) (toV Z)) (by simp only [List.append_assoc, List.append_nil, List.nil_append]) ?_
              refine J_ws (((wSim Z s (toN Z) (toM Z) hA lA oA tA eA (fun j => some (rw j)) (fun j => some (lr j)) fo ft fe dy (cc1 + 1) ++ wRw Z (toN Z) rw p hh1 ff1 tt1) ++ wPl Z L) ++ wLr Z (toM Z) lr (toK Z) (toV Z)) (by simp only [List.append_assoc, List.append_nil, List.nil_append]) ?_
              refine J_iinc ((nI k) + 1) [(1, .int ((nI k) + 1)), (5, .int (nI (clN (ofN (toN Z) dy p hh1 ff1 tt1 2 (twoQ Z k))))), (4, .int (nI (clN (ofN (toN Z) dy p hh1 ff1 tt1 2 (oneQ Z k))))), (3, .ref n1), (2, .ref (rw ((toV Z) k))), (0, .ref s)] C iX9_pass_236 rfl rfl (by decide) rfl ?_
              rw [show (nI k) + 1 = nI (k + 1) from nI_add _ _]
              refine J_goto 2 C iX9_pass_239 rfl ?_
              refine J_lvm [(1, .int (nI (k + 1))), (0, .ref s)] rfl ?_
              refine J_room (rc2 := 1 * (4 - (k + 1))) (rs2 := 3 * (4 - (k + 1))) (by omega) (by omega) ?_
              exact ih (hh1, ff1, tt1, (cc1 + 1)) ⟨by rw [pdN, hI1]; exact pdS_yes hgo h3 (if_neg (fun q => he2 q.2.1)), ok3⟩
          · refine J_icmpne 231 C iX9_pass_206 rfl (fun h206 => ?_) (fun h206 => absurd h206 (fun e => he1 ((nI_eq (by omega) (by omega)).mp e)))
            refine J_iconst 1 C iX9_pass_231 rfl ?_
            refine J_iadd C iX9_pass_232 ?_
            refine J_put ((((arrI Z n1 3 (upd (upd (upd (fun _ => 0) 0 (nI (hh1 ((toV Z) k)))) 1 (cuI (ff1 ((toV Z) k)))) 2 (cuI (tt1 ((toV Z) k)))) ++ wSim Z s (toN Z) (toM Z) hA lA oA tA eA (fun j => some (rw j)) (fun j => some (lr j)) fo ft fe dy (cc1 + 1)) ++ wRw Z (toN Z) rw p hh1 ff1 tt1) ++ wPl Z L) ++ wLr Z (toM Z) lr (toK Z) (toV Z)) 1 C iX9_pass_233 pf_X9_39 rfl rfl rfl (Nat.le_of_ble_eq_true rfl) rfl ?_
            refine J_drop [] (arrI Z n1 3 (upd (upd (upd (fun _ => 0) 0 (nI (hh1 ((toV Z) k)))) 1 (cuI (ff1 ((toV Z) k)))) 2 (cuI (tt1 ((toV Z) k))))) (((wSim Z s (toN Z) (toM Z) hA lA oA tA eA (fun j => some (rw j)) (fun j => some (lr j)) fo ft fe dy (cc1 + 1) ++ wRw Z (toN Z) rw p hh1 ff1 tt1) ++ wPl Z L) ++ wLr Z (toM Z) lr (toK Z) (toV Z)) (by simp only [List.append_assoc, List.append_nil, List.nil_append]) ?_
            refine J_ws (((wSim Z s (toN Z) (toM Z) hA lA oA tA eA (fun j => some (rw j)) (fun j => some (lr j)) fo ft fe dy (cc1 + 1) ++ wRw Z (toN Z) rw p hh1 ff1 tt1) ++ wPl Z L) ++ wLr Z (toM Z) lr (toK Z) (toV Z)) (by simp only [List.append_assoc, List.append_nil, List.nil_append]) ?_
            refine J_iinc ((nI k) + 1) [(1, .int ((nI k) + 1)), (5, .int (nI (clN (ofN (toN Z) dy p hh1 ff1 tt1 2 (twoQ Z k))))), (4, .int (nI (clN (ofN (toN Z) dy p hh1 ff1 tt1 2 (oneQ Z k))))), (3, .ref n1), (2, .ref (rw ((toV Z) k))), (0, .ref s)] C iX9_pass_236 rfl rfl (by decide) rfl ?_
            rw [show (nI k) + 1 = nI (k + 1) from nI_add _ _]
            refine J_goto 2 C iX9_pass_239 rfl ?_
            refine J_lvm [(1, .int (nI (k + 1))), (0, .ref s)] rfl ?_
            refine J_room (rc2 := 1 * (4 - (k + 1))) (rs2 := 3 * (4 - (k + 1))) (by omega) (by omega) ?_
            exact ih (hh1, ff1, tt1, (cc1 + 1)) ⟨by rw [pdN, hI1]; exact pdS_yes hgo h3 (if_neg (fun q => he1 q.1)), ok3⟩
      · refine J_aload_n C iX9_pass_73 rfl rfl ?_
        refine J_get (.ref lA) 1 C iX9_pass_74 gf_X9_15 rfl rfl ?_
        refine J_iload_n C iX9_pass_77 rfl rfl ?_
        refine J_aaldA 3 C iX9_pass_78 rfl (vp_in_nI (n := k) (by omega) (by omega)) ?_
        rw [nI_clamp (n := k) (by omega)]
        refine J_st (.ref (lr k) :: []) rfl ?_
        refine J_iconst 0 C iX9_pass_79 rfl ?_
        refine J_iald (n := 2) (f := lrwF (toK Z) (toV Z) k) (((((arrI Z n1 3 (upd (upd (upd (fun _ => 0) 0 (nI (hh1 ((toV Z) k)))) 1 (cuI (ff1 ((toV Z) k)))) 2 (cuI (tt1 ((toV Z) k)))) ++ wSim Z s (toN Z) (toM Z) hA lA oA tA eA (fun j => some (rw j)) (fun j => some (lr j)) fo ft fe dy cc1) ++ wRw Z (toN Z) rw p hh1 ff1 tt1) ++ wPl Z L)).length + k) C iX9_pass_80 (mid_at (A := (((arrI Z n1 3 (upd (upd (upd (fun _ => 0) 0 (nI (hh1 ((toV Z) k)))) 1 (cuI (ff1 ((toV Z) k)))) 2 (cuI (tt1 ((toV Z) k)))) ++ wSim Z s (toN Z) (toM Z) hA lA oA tA eA (fun j => some (rw j)) (fun j => some (lr j)) fo ft fe dy cc1) ++ wRw Z (toN Z) rw p hh1 ff1 tt1) ++ wPl Z L)) (M := wLr Z (toM Z) lr (toK Z) (toV Z)) (B := []) (by simp only [List.append_assoc, List.append_nil, List.nil_append]) (wLr_at (by omega))) (vp_in_nI (n := 0) (by decide) (by decide)) ?_
        refine J_st (.int (nI ((toK Z) k)) :: []) rfl ?_
        rw [hk0]
        refine J_st (.int 1 :: []) rfl ?_
        refine J_ifne 142 C iX9_pass_81 rfl (fun h81 => ?_) (fun h81 => absurd h81 (by decide))
        refine J_aload_n C iX9_pass_142 rfl rfl ?_
        refine J_get (.ref lA) 1 C iX9_pass_143 gf_X9_15 rfl rfl ?_
        refine J_iload_n C iX9_pass_146 rfl rfl ?_
        refine J_aaldA 3 C iX9_pass_147 rfl (vp_in_nI (n := k) (by omega) (by omega)) ?_
        rw [nI_clamp (n := k) (by omega)]
        refine J_st (.ref (lr k) :: []) rfl ?_
        refine J_iconst 0 C iX9_pass_148 rfl ?_
        refine J_iald (n := 2) (f := lrwF (toK Z) (toV Z) k) (((((arrI Z n1 3 (upd (upd (upd (fun _ => 0) 0 (nI (hh1 ((toV Z) k)))) 1 (cuI (ff1 ((toV Z) k)))) 2 (cuI (tt1 ((toV Z) k)))) ++ wSim Z s (toN Z) (toM Z) hA lA oA tA eA (fun j => some (rw j)) (fun j => some (lr j)) fo ft fe dy cc1) ++ wRw Z (toN Z) rw p hh1 ff1 tt1) ++ wPl Z L)).length + k) C iX9_pass_149 (mid_at (A := (((arrI Z n1 3 (upd (upd (upd (fun _ => 0) 0 (nI (hh1 ((toV Z) k)))) 1 (cuI (ff1 ((toV Z) k)))) 2 (cuI (tt1 ((toV Z) k)))) ++ wSim Z s (toN Z) (toM Z) hA lA oA tA eA (fun j => some (rw j)) (fun j => some (lr j)) fo ft fe dy cc1) ++ wRw Z (toN Z) rw p hh1 ff1 tt1) ++ wPl Z L)) (M := wLr Z (toM Z) lr (toK Z) (toV Z)) (B := []) (by simp only [List.append_assoc, List.append_nil, List.nil_append]) (wLr_at (by omega))) (vp_in_nI (n := 0) (by decide) (by decide)) ?_
        refine J_st (.int (nI ((toK Z) k)) :: []) rfl ?_
        rw [hk0]
        refine J_st (.int 1 :: []) rfl ?_
        refine J_iconst 1 C iX9_pass_150 rfl ?_
        refine J_icmpne 165 C iX9_pass_151 rfl (fun h151 => absurd (by decide) h151) (fun h151 => ?_)
        refine J_aload_n C iX9_pass_154 rfl rfl ?_
        refine J_iconst 2 C iX9_pass_155 rfl ?_
        refine J_iconst (-1) C iX9_pass_156 rfl ?_
        refine J_iast (n := 4) (f := rowF p hh1 ff1 tt1 ((toV Z) k)) ((((arrI Z n1 3 (upd (upd (upd (fun _ => 0) 0 (nI (hh1 ((toV Z) k)))) 1 (cuI (ff1 ((toV Z) k)))) 2 (cuI (tt1 ((toV Z) k)))) ++ wSim Z s (toN Z) (toM Z) hA lA oA tA eA (fun j => some (rw j)) (fun j => some (lr j)) fo ft fe dy cc1) ++ wRw Z (toN Z) rw p hh1 (upN ff1 ((toV Z) k) 0) tt1) ++ wPl Z L) ++ wLr Z (toM Z) lr (toK Z) (toV Z)) (((arrI Z n1 3 (upd (upd (upd (fun _ => 0) 0 (nI (hh1 ((toV Z) k)))) 1 (cuI (ff1 ((toV Z) k)))) 2 (cuI (tt1 ((toV Z) k)))) ++ wSim Z s (toN Z) (toM Z) hA lA oA tA eA (fun j => some (rw j)) (fun j => some (lr j)) fo ft fe dy cc1)).length + ((toV Z) k)) C iX9_pass_157 (mid_at (A := (arrI Z n1 3 (upd (upd (upd (fun _ => 0) 0 (nI (hh1 ((toV Z) k)))) 1 (cuI (ff1 ((toV Z) k)))) 2 (cuI (tt1 ((toV Z) k)))) ++ wSim Z s (toN Z) (toM Z) hA lA oA tA eA (fun j => some (rw j)) (fun j => some (lr j)) fo ft fe dy cc1)) (M := wRw Z (toN Z) rw p hh1 ff1 tt1) (B := (wPl Z L ++ wLr Z (toM Z) lr (toK Z) (toV Z))) (by simp only [List.append_assoc, List.append_nil, List.nil_append]) (wRw_at (by omega))) (vp_in_nI (n := 2) (by decide) (by decide)) ?_ ?_
        · rw [show Int32.toNatClampNeg 2 = 2 from rfl]; rw [show (-1) = cuI 0 from rfl]; exact (mid_set (A := (arrI Z n1 3 (upd (upd (upd (fun _ => 0) 0 (nI (hh1 ((toV Z) k)))) 1 (cuI (ff1 ((toV Z) k)))) 2 (cuI (tt1 ((toV Z) k)))) ++ wSim Z s (toN Z) (toM Z) hA lA oA tA eA (fun j => some (rw j)) (fun j => some (lr j)) fo ft fe dy cc1)) (M := wRw Z (toN Z) rw p hh1 ff1 tt1) (B := (wPl Z L ++ wLr Z (toM Z) lr (toK Z) (toV Z))) (by simp only [List.append_assoc, List.append_nil, List.nil_append]) (by rw [wRw_len]; omega) (wRw_set (by omega) row_f (fun j hj hne => by simp [upN, hne]))).trans (by simp only [List.append_assoc, List.append_nil, List.nil_append])
        refine J_aload_n C iX9_pass_158 rfl rfl ?_
        refine J_iconst 3 C iX9_pass_159 rfl ?_
        refine J_iconst (-1) C iX9_pass_160 rfl ?_
        refine J_iast (n := 4) (f := rowF p hh1 (upN ff1 ((toV Z) k) 0) tt1 ((toV Z) k)) ((((arrI Z n1 3 (upd (upd (upd (fun _ => 0) 0 (nI (hh1 ((toV Z) k)))) 1 (cuI (ff1 ((toV Z) k)))) 2 (cuI (tt1 ((toV Z) k)))) ++ wSim Z s (toN Z) (toM Z) hA lA oA tA eA (fun j => some (rw j)) (fun j => some (lr j)) fo ft fe dy cc1) ++ wRw Z (toN Z) rw p hh1 (upN ff1 ((toV Z) k) 0) (upN tt1 ((toV Z) k) 0)) ++ wPl Z L) ++ wLr Z (toM Z) lr (toK Z) (toV Z)) (((arrI Z n1 3 (upd (upd (upd (fun _ => 0) 0 (nI (hh1 ((toV Z) k)))) 1 (cuI (ff1 ((toV Z) k)))) 2 (cuI (tt1 ((toV Z) k)))) ++ wSim Z s (toN Z) (toM Z) hA lA oA tA eA (fun j => some (rw j)) (fun j => some (lr j)) fo ft fe dy cc1)).length + ((toV Z) k)) C iX9_pass_161 (mid_at (A := (arrI Z n1 3 (upd (upd (upd (fun _ => 0) 0 (nI (hh1 ((toV Z) k)))) 1 (cuI (ff1 ((toV Z) k)))) 2 (cuI (tt1 ((toV Z) k)))) ++ wSim Z s (toN Z) (toM Z) hA lA oA tA eA (fun j => some (rw j)) (fun j => some (lr j)) fo ft fe dy cc1)) (M := wRw Z (toN Z) rw p hh1 (upN ff1 ((toV Z) k) 0) tt1) (B := (wPl Z L ++ wLr Z (toM Z) lr (toK Z) (toV Z))) (by simp only [List.append_assoc, List.append_nil, List.nil_append]) (wRw_at (by omega))) (vp_in_nI (n := 3) (by decide) (by decide)) ?_ ?_
        · rw [show Int32.toNatClampNeg 3 = 3 from rfl]; rw [show (-1) = cuI 0 from rfl]; exact (mid_set (A := (arrI Z n1 3 (upd (upd (upd (fun _ => 0) 0 (nI (hh1 ((toV Z) k)))) 1 (cuI (ff1 ((toV Z) k)))) 2 (cuI (tt1 ((toV Z) k)))) ++ wSim Z s (toN Z) (toM Z) hA lA oA tA eA (fun j => some (rw j)) (fun j => some (lr j)) fo ft fe dy cc1)) (M := wRw Z (toN Z) rw p hh1 (upN ff1 ((toV Z) k) 0) tt1) (B := (wPl Z L ++ wLr Z (toM Z) lr (toK Z) (toV Z))) (by simp only [List.append_assoc, List.append_nil, List.nil_append]) (by rw [wRw_len]; omega) (wRw_set (by omega) row_t (fun j hj hne => by simp [upN, hne]))).trans (by simp only [List.append_assoc, List.append_nil, List.nil_append])
        refine J_goto 195 C iX9_pass_162 rfl ?_
        have h3 : pd3 Z p dy hh1 ff1 tt1 k = (hh1, upN ff1 ((toV Z) k) 0, upN tt1 ((toV Z) k) 0) := by rw [pd3, if_neg (by omega), if_pos hk0]
        have ok3 : SnOk (toN Z) p hh1 (upN ff1 ((toV Z) k) 0) (upN tt1 ((toV Z) k) 0) := (hI2.upC (Or.inl ⟨rfl, rfl⟩))
        generalize upN ff1 ((toV Z) k) 0 = f3_ at h3 ok3 ⊢
        generalize upN tt1 ((toV Z) k) 0 = t3_ at h3 ok3 ⊢
        have hv3 := (ok3.2 (toV Z k) hvl)
        refine J_aload_n C iX9_pass_195 rfl rfl ?_
        refine J_dup C iX9_pass_196 rfl ?_
        refine J_get (.int cc1) 1 C iX9_pass_197 gf_X9_39 rfl rfl ?_
        refine J_aload_n C iX9_pass_200 rfl rfl ?_
        refine J_iconst 1 C iX9_pass_201 rfl ?_
        refine J_iald (n := 4) (f := rowF p hh1 f3_ t3_ ((toV Z) k)) (((arrI Z n1 3 (upd (upd (upd (fun _ => 0) 0 (nI (hh1 ((toV Z) k)))) 1 (cuI (ff1 ((toV Z) k)))) 2 (cuI (tt1 ((toV Z) k)))) ++ wSim Z s (toN Z) (toM Z) hA lA oA tA eA (fun j => some (rw j)) (fun j => some (lr j)) fo ft fe dy cc1)).length + ((toV Z) k)) C iX9_pass_202 (mid_at (A := (arrI Z n1 3 (upd (upd (upd (fun _ => 0) 0 (nI (hh1 ((toV Z) k)))) 1 (cuI (ff1 ((toV Z) k)))) 2 (cuI (tt1 ((toV Z) k)))) ++ wSim Z s (toN Z) (toM Z) hA lA oA tA eA (fun j => some (rw j)) (fun j => some (lr j)) fo ft fe dy cc1)) (M := wRw Z (toN Z) rw p hh1 f3_ t3_) (B := (wPl Z L ++ wLr Z (toM Z) lr (toK Z) (toV Z))) (by simp only [List.append_assoc, List.append_nil, List.nil_append]) (wRw_at (by omega))) (vp_in_nI (n := 1) (by decide) (by decide)) ?_
        refine J_st (.int (nI (hh1 ((toV Z) k))) :: .int cc1 :: .ref s :: []) rfl ?_
        refine J_aload_n C iX9_pass_203 rfl rfl ?_
        refine J_iconst 0 C iX9_pass_204 rfl ?_
        refine J_iald 0 C iX9_pass_205 rfl (vp_in_nI (n := 0) (by omega) (by omega)) ?_
        rw [show Int32.toNatClampNeg 0 = 0 from rfl]
        by_cases he1 : hh1 (toV Z k) = hh1 (toV Z k)
        · refine J_icmpne 231 C iX9_pass_206 rfl (fun h206 => absurd (show nI (hh1 (toV Z k)) = nI (hh1 (toV Z k)) from congrArg nI he1) h206) (fun h206 => ?_)
          refine J_aload_n C iX9_pass_209 rfl rfl ?_
          refine J_iconst 2 C iX9_pass_210 rfl ?_
          refine J_iald (n := 4) (f := rowF p hh1 f3_ t3_ ((toV Z) k)) (((arrI Z n1 3 (upd (upd (upd (fun _ => 0) 0 (nI (hh1 ((toV Z) k)))) 1 (cuI (ff1 ((toV Z) k)))) 2 (cuI (tt1 ((toV Z) k)))) ++ wSim Z s (toN Z) (toM Z) hA lA oA tA eA (fun j => some (rw j)) (fun j => some (lr j)) fo ft fe dy cc1)).length + ((toV Z) k)) C iX9_pass_211 (mid_at (A := (arrI Z n1 3 (upd (upd (upd (fun _ => 0) 0 (nI (hh1 ((toV Z) k)))) 1 (cuI (ff1 ((toV Z) k)))) 2 (cuI (tt1 ((toV Z) k)))) ++ wSim Z s (toN Z) (toM Z) hA lA oA tA eA (fun j => some (rw j)) (fun j => some (lr j)) fo ft fe dy cc1)) (M := wRw Z (toN Z) rw p hh1 f3_ t3_) (B := (wPl Z L ++ wLr Z (toM Z) lr (toK Z) (toV Z))) (by simp only [List.append_assoc, List.append_nil, List.nil_append]) (wRw_at (by omega))) (vp_in_nI (n := 2) (by decide) (by decide)) ?_
          refine J_st (.int (cuI (f3_ ((toV Z) k))) :: .int cc1 :: .ref s :: []) rfl ?_
          refine J_aload_n C iX9_pass_212 rfl rfl ?_
          refine J_iconst 1 C iX9_pass_213 rfl ?_
          refine J_iald 0 C iX9_pass_214 rfl (vp_in_nI (n := 1) (by omega) (by omega)) ?_
          rw [show Int32.toNatClampNeg 1 = 1 from rfl]
          by_cases he2 : f3_ (toV Z k) = ff1 (toV Z k)
          · refine J_icmpne 231 C iX9_pass_215 rfl (fun h215 => absurd (show cuI (f3_ (toV Z k)) = cuI (ff1 (toV Z k)) from congrArg cuI he2) h215) (fun h215 => ?_)
            refine J_aload_n C iX9_pass_218 rfl rfl ?_
            refine J_iconst 3 C iX9_pass_219 rfl ?_
            refine J_iald (n := 4) (f := rowF p hh1 f3_ t3_ ((toV Z) k)) (((arrI Z n1 3 (upd (upd (upd (fun _ => 0) 0 (nI (hh1 ((toV Z) k)))) 1 (cuI (ff1 ((toV Z) k)))) 2 (cuI (tt1 ((toV Z) k)))) ++ wSim Z s (toN Z) (toM Z) hA lA oA tA eA (fun j => some (rw j)) (fun j => some (lr j)) fo ft fe dy cc1)).length + ((toV Z) k)) C iX9_pass_220 (mid_at (A := (arrI Z n1 3 (upd (upd (upd (fun _ => 0) 0 (nI (hh1 ((toV Z) k)))) 1 (cuI (ff1 ((toV Z) k)))) 2 (cuI (tt1 ((toV Z) k)))) ++ wSim Z s (toN Z) (toM Z) hA lA oA tA eA (fun j => some (rw j)) (fun j => some (lr j)) fo ft fe dy cc1)) (M := wRw Z (toN Z) rw p hh1 f3_ t3_) (B := (wPl Z L ++ wLr Z (toM Z) lr (toK Z) (toV Z))) (by simp only [List.append_assoc, List.append_nil, List.nil_append]) (wRw_at (by omega))) (vp_in_nI (n := 3) (by decide) (by decide)) ?_
            refine J_st (.int (cuI (t3_ ((toV Z) k))) :: .int cc1 :: .ref s :: []) rfl ?_
            refine J_aload_n C iX9_pass_221 rfl rfl ?_
            refine J_iconst 2 C iX9_pass_222 rfl ?_
            refine J_iald 0 C iX9_pass_223 rfl (vp_in_nI (n := 2) (by omega) (by omega)) ?_
            rw [show Int32.toNatClampNeg 2 = 2 from rfl]
            by_cases he3 : t3_ (toV Z k) = tt1 (toV Z k)
            · refine J_icmpne 231 C iX9_pass_224 rfl (fun h224 => absurd (show cuI (t3_ (toV Z k)) = cuI (tt1 (toV Z k)) from congrArg cuI he3) h224) (fun h224 => ?_)
              refine J_iconst 0 C iX9_pass_227 rfl ?_
              refine J_goto 232 C iX9_pass_228 rfl ?_
              refine J_iadd C iX9_pass_232 ?_
              refine J_put ((((arrI Z n1 3 (upd (upd (upd (fun _ => 0) 0 (nI (hh1 ((toV Z) k)))) 1 (cuI (ff1 ((toV Z) k)))) 2 (cuI (tt1 ((toV Z) k)))) ++ wSim Z s (toN Z) (toM Z) hA lA oA tA eA (fun j => some (rw j)) (fun j => some (lr j)) fo ft fe dy (cc1 + 0)) ++ wRw Z (toN Z) rw p hh1 f3_ t3_) ++ wPl Z L) ++ wLr Z (toM Z) lr (toK Z) (toV Z)) 1 C iX9_pass_233 pf_X9_39 rfl rfl rfl (Nat.le_of_ble_eq_true rfl) rfl ?_
              refine J_drop [] (arrI Z n1 3 (upd (upd (upd (fun _ => 0) 0 (nI (hh1 ((toV Z) k)))) 1 (cuI (ff1 ((toV Z) k)))) 2 (cuI (tt1 ((toV Z) k))))) (((wSim Z s (toN Z) (toM Z) hA lA oA tA eA (fun j => some (rw j)) (fun j => some (lr j)) fo ft fe dy (cc1 + 0) ++ wRw Z (toN Z) rw p hh1 f3_ t3_) ++ wPl Z L) ++ wLr Z (toM Z) lr (toK Z) (toV Z)) (by simp only [List.append_assoc, List.append_nil, List.nil_append]) ?_
              refine J_ws (((wSim Z s (toN Z) (toM Z) hA lA oA tA eA (fun j => some (rw j)) (fun j => some (lr j)) fo ft fe dy (cc1 + 0) ++ wRw Z (toN Z) rw p hh1 f3_ t3_) ++ wPl Z L) ++ wLr Z (toM Z) lr (toK Z) (toV Z)) (by simp only [List.append_assoc, List.append_nil, List.nil_append]) ?_
              refine J_iinc ((nI k) + 1) [(1, .int ((nI k) + 1)), (3, .ref n1), (2, .ref (rw ((toV Z) k))), (0, .ref s)] C iX9_pass_236 rfl rfl (by decide) rfl ?_
              rw [show (nI k) + 1 = nI (k + 1) from nI_add _ _]
              refine J_goto 2 C iX9_pass_239 rfl ?_
              refine J_lvm [(1, .int (nI (k + 1))), (0, .ref s)] rfl ?_
              refine J_room (rc2 := 1 * (4 - (k + 1))) (rs2 := 3 * (4 - (k + 1))) (by omega) (by omega) ?_
              exact ih (hh1, f3_, t3_, (cc1 + 0)) ⟨by rw [pdN, hI1]; exact pdS_yes hgo h3 (if_pos ⟨he1, he2, he3⟩), ok3⟩
            · refine J_icmpne 231 C iX9_pass_224 rfl (fun h224 => ?_) (fun h224 => absurd h224 (fun e => he3 ((cu_inj (by omega) (by omega)).mp e)))
              refine J_iconst 1 C iX9_pass_231 rfl ?_
              refine J_iadd C iX9_pass_232 ?_
              refine J_put ((((arrI Z n1 3 (upd (upd (upd (fun _ => 0) 0 (nI (hh1 ((toV Z) k)))) 1 (cuI (ff1 ((toV Z) k)))) 2 (cuI (tt1 ((toV Z) k)))) ++ wSim Z s (toN Z) (toM Z) hA lA oA tA eA (fun j => some (rw j)) (fun j => some (lr j)) fo ft fe dy (cc1 + 1)) ++ wRw Z (toN Z) rw p hh1 f3_ t3_) ++ wPl Z L) ++ wLr Z (toM Z) lr (toK Z) (toV Z)) 1 C iX9_pass_233 pf_X9_39 rfl rfl rfl (Nat.le_of_ble_eq_true rfl) rfl ?_
              refine J_drop [] (arrI Z n1 3 (upd (upd (upd (fun _ => 0) 0 (nI (hh1 ((toV Z) k)))) 1 (cuI (ff1 ((toV Z) k)))) 2 (cuI (tt1 ((toV Z) k))))) (((wSim Z s (toN Z) (toM Z) hA lA oA tA eA (fun j => some (rw j)) (fun j => some (lr j)) fo ft fe dy (cc1 + 1) ++ wRw Z (toN Z) rw p hh1 f3_ t3_) ++ wPl Z L) ++ wLr Z (toM Z) lr (toK Z) (toV Z)) (by simp only [List.append_assoc, List.append_nil, List.nil_append]) ?_
              refine J_ws (((wSim Z s (toN Z) (toM Z) hA lA oA tA eA (fun j => some (rw j)) (fun j => some (lr j)) fo ft fe dy (cc1 + 1) ++ wRw Z (toN Z) rw p hh1 f3_ t3_) ++ wPl Z L) ++ wLr Z (toM Z) lr (toK Z) (toV Z)) (by simp only [List.append_assoc, List.append_nil, List.nil_append]) ?_
              refine J_iinc ((nI k) + 1) [(1, .int ((nI k) + 1)), (3, .ref n1), (2, .ref (rw ((toV Z) k))), (0, .ref s)] C iX9_pass_236 rfl rfl (by decide) rfl ?_
              rw [show (nI k) + 1 = nI (k + 1) from nI_add _ _]
              refine J_goto 2 C iX9_pass_239 rfl ?_
              refine J_lvm [(1, .int (nI (k + 1))), (0, .ref s)] rfl ?_
              refine J_room (rc2 := 1 * (4 - (k + 1))) (rs2 := 3 * (4 - (k + 1))) (by omega) (by omega) ?_
              exact ih (hh1, f3_, t3_, (cc1 + 1)) ⟨by rw [pdN, hI1]; exact pdS_yes hgo h3 (if_neg (fun q => he3 q.2.2)), ok3⟩
          · refine J_icmpne 231 C iX9_pass_215 rfl (fun h215 => ?_) (fun h215 => absurd h215 (fun e => he2 ((cu_inj (by omega) (by omega)).mp e)))
            refine J_iconst 1 C iX9_pass_231 rfl ?_
            refine J_iadd C iX9_pass_232 ?_
            refine J_put ((((arrI Z n1 3 (upd (upd (upd (fun _ => 0) 0 (nI (hh1 ((toV Z) k)))) 1 (cuI (ff1 ((toV Z) k)))) 2 (cuI (tt1 ((toV Z) k)))) ++ wSim Z s (toN Z) (toM Z) hA lA oA tA eA (fun j => some (rw j)) (fun j => some (lr j)) fo ft fe dy (cc1 + 1)) ++ wRw Z (toN Z) rw p hh1 f3_ t3_) ++ wPl Z L) ++ wLr Z (toM Z) lr (toK Z) (toV Z)) 1 C iX9_pass_233 pf_X9_39 rfl rfl rfl (Nat.le_of_ble_eq_true rfl) rfl ?_
            refine J_drop [] (arrI Z n1 3 (upd (upd (upd (fun _ => 0) 0 (nI (hh1 ((toV Z) k)))) 1 (cuI (ff1 ((toV Z) k)))) 2 (cuI (tt1 ((toV Z) k))))) (((wSim Z s (toN Z) (toM Z) hA lA oA tA eA (fun j => some (rw j)) (fun j => some (lr j)) fo ft fe dy (cc1 + 1) ++ wRw Z (toN Z) rw p hh1 f3_ t3_) ++ wPl Z L) ++ wLr Z (toM Z) lr (toK Z) (toV Z)) (by simp only [List.append_assoc, List.append_nil, List.nil_append]) ?_
            refine J_ws (((wSim Z s (toN Z) (toM Z) hA lA oA tA eA (fun j => some (rw j)) (fun j => some (lr j)) fo ft fe dy (cc1 + 1) ++ wRw Z (toN Z) rw p hh1 f3_ t3_) ++ wPl Z L) ++ wLr Z (toM Z) lr (toK Z) (toV Z)) (by simp only [List.append_assoc, List.append_nil, List.nil_append]) ?_
            refine J_iinc ((nI k) + 1) [(1, .int ((nI k) + 1)), (3, .ref n1), (2, .ref (rw ((toV Z) k))), (0, .ref s)] C iX9_pass_236 rfl rfl (by decide) rfl ?_
            rw [show (nI k) + 1 = nI (k + 1) from nI_add _ _]
            refine J_goto 2 C iX9_pass_239 rfl ?_
            refine J_lvm [(1, .int (nI (k + 1))), (0, .ref s)] rfl ?_
            refine J_room (rc2 := 1 * (4 - (k + 1))) (rs2 := 3 * (4 - (k + 1))) (by omega) (by omega) ?_
            exact ih (hh1, f3_, t3_, (cc1 + 1)) ⟨by rw [pdN, hI1]; exact pdS_yes hgo h3 (if_neg (fun q => he2 q.2.1)), ok3⟩
        · refine J_icmpne 231 C iX9_pass_206 rfl (fun h206 => ?_) (fun h206 => absurd h206 (fun e => he1 ((nI_eq (by omega) (by omega)).mp e)))
          refine J_iconst 1 C iX9_pass_231 rfl ?_
          refine J_iadd C iX9_pass_232 ?_
          refine J_put ((((arrI Z n1 3 (upd (upd (upd (fun _ => 0) 0 (nI (hh1 ((toV Z) k)))) 1 (cuI (ff1 ((toV Z) k)))) 2 (cuI (tt1 ((toV Z) k)))) ++ wSim Z s (toN Z) (toM Z) hA lA oA tA eA (fun j => some (rw j)) (fun j => some (lr j)) fo ft fe dy (cc1 + 1)) ++ wRw Z (toN Z) rw p hh1 f3_ t3_) ++ wPl Z L) ++ wLr Z (toM Z) lr (toK Z) (toV Z)) 1 C iX9_pass_233 pf_X9_39 rfl rfl rfl (Nat.le_of_ble_eq_true rfl) rfl ?_
          refine J_drop [] (arrI Z n1 3 (upd (upd (upd (fun _ => 0) 0 (nI (hh1 ((toV Z) k)))) 1 (cuI (ff1 ((toV Z) k)))) 2 (cuI (tt1 ((toV Z) k))))) (((wSim Z s (toN Z) (toM Z) hA lA oA tA eA (fun j => some (rw j)) (fun j => some (lr j)) fo ft fe dy (cc1 + 1) ++ wRw Z (toN Z) rw p hh1 f3_ t3_) ++ wPl Z L) ++ wLr Z (toM Z) lr (toK Z) (toV Z)) (by simp only [List.append_assoc, List.append_nil, List.nil_append]) ?_
          refine J_ws (((wSim Z s (toN Z) (toM Z) hA lA oA tA eA (fun j => some (rw j)) (fun j => some (lr j)) fo ft fe dy (cc1 + 1) ++ wRw Z (toN Z) rw p hh1 f3_ t3_) ++ wPl Z L) ++ wLr Z (toM Z) lr (toK Z) (toV Z)) (by simp only [List.append_assoc, List.append_nil, List.nil_append]) ?_
          refine J_iinc ((nI k) + 1) [(1, .int ((nI k) + 1)), (3, .ref n1), (2, .ref (rw ((toV Z) k))), (0, .ref s)] C iX9_pass_236 rfl rfl (by decide) rfl ?_
          rw [show (nI k) + 1 = nI (k + 1) from nI_add _ _]
          refine J_goto 2 C iX9_pass_239 rfl ?_
          refine J_lvm [(1, .int (nI (k + 1))), (0, .ref s)] rfl ?_
          refine J_room (rc2 := 1 * (4 - (k + 1))) (rs2 := 3 * (4 - (k + 1))) (by omega) (by omega) ?_
          exact ih (hh1, f3_, t3_, (cc1 + 1)) ⟨by rw [pdN, hI1]; exact pdS_yes hgo h3 (if_neg (fun q => he1 q.1)), ok3⟩
      · refine J_aload_n C iX9_pass_73 rfl rfl ?_
        refine J_get (.ref lA) 1 C iX9_pass_74 gf_X9_15 rfl rfl ?_
        refine J_iload_n C iX9_pass_77 rfl rfl ?_
        refine J_aaldA 3 C iX9_pass_78 rfl (vp_in_nI (n := k) (by omega) (by omega)) ?_
        rw [nI_clamp (n := k) (by omega)]
        refine J_st (.ref (lr k) :: []) rfl ?_
        refine J_iconst 0 C iX9_pass_79 rfl ?_
        refine J_iald (n := 2) (f := lrwF (toK Z) (toV Z) k) (((((arrI Z n1 3 (upd (upd (upd (fun _ => 0) 0 (nI (hh1 ((toV Z) k)))) 1 (cuI (ff1 ((toV Z) k)))) 2 (cuI (tt1 ((toV Z) k)))) ++ wSim Z s (toN Z) (toM Z) hA lA oA tA eA (fun j => some (rw j)) (fun j => some (lr j)) fo ft fe dy cc1) ++ wRw Z (toN Z) rw p hh1 ff1 tt1) ++ wPl Z L)).length + k) C iX9_pass_80 (mid_at (A := (((arrI Z n1 3 (upd (upd (upd (fun _ => 0) 0 (nI (hh1 ((toV Z) k)))) 1 (cuI (ff1 ((toV Z) k)))) 2 (cuI (tt1 ((toV Z) k)))) ++ wSim Z s (toN Z) (toM Z) hA lA oA tA eA (fun j => some (rw j)) (fun j => some (lr j)) fo ft fe dy cc1) ++ wRw Z (toN Z) rw p hh1 ff1 tt1) ++ wPl Z L)) (M := wLr Z (toM Z) lr (toK Z) (toV Z)) (B := []) (by simp only [List.append_assoc, List.append_nil, List.nil_append]) (wLr_at (by omega))) (vp_in_nI (n := 0) (by decide) (by decide)) ?_
        refine J_st (.int (nI ((toK Z) k)) :: []) rfl ?_
        rw [hk0]
        refine J_st (.int 2 :: []) rfl ?_
        refine J_ifne 142 C iX9_pass_81 rfl (fun h81 => ?_) (fun h81 => absurd h81 (by decide))
        refine J_aload_n C iX9_pass_142 rfl rfl ?_
        refine J_get (.ref lA) 1 C iX9_pass_143 gf_X9_15 rfl rfl ?_
        refine J_iload_n C iX9_pass_146 rfl rfl ?_
        refine J_aaldA 3 C iX9_pass_147 rfl (vp_in_nI (n := k) (by omega) (by omega)) ?_
        rw [nI_clamp (n := k) (by omega)]
        refine J_st (.ref (lr k) :: []) rfl ?_
        refine J_iconst 0 C iX9_pass_148 rfl ?_
        refine J_iald (n := 2) (f := lrwF (toK Z) (toV Z) k) (((((arrI Z n1 3 (upd (upd (upd (fun _ => 0) 0 (nI (hh1 ((toV Z) k)))) 1 (cuI (ff1 ((toV Z) k)))) 2 (cuI (tt1 ((toV Z) k)))) ++ wSim Z s (toN Z) (toM Z) hA lA oA tA eA (fun j => some (rw j)) (fun j => some (lr j)) fo ft fe dy cc1) ++ wRw Z (toN Z) rw p hh1 ff1 tt1) ++ wPl Z L)).length + k) C iX9_pass_149 (mid_at (A := (((arrI Z n1 3 (upd (upd (upd (fun _ => 0) 0 (nI (hh1 ((toV Z) k)))) 1 (cuI (ff1 ((toV Z) k)))) 2 (cuI (tt1 ((toV Z) k)))) ++ wSim Z s (toN Z) (toM Z) hA lA oA tA eA (fun j => some (rw j)) (fun j => some (lr j)) fo ft fe dy cc1) ++ wRw Z (toN Z) rw p hh1 ff1 tt1) ++ wPl Z L)) (M := wLr Z (toM Z) lr (toK Z) (toV Z)) (B := []) (by simp only [List.append_assoc, List.append_nil, List.nil_append]) (wLr_at (by omega))) (vp_in_nI (n := 0) (by decide) (by decide)) ?_
        refine J_st (.int (nI ((toK Z) k)) :: []) rfl ?_
        rw [hk0]
        refine J_st (.int 2 :: []) rfl ?_
        refine J_iconst 1 C iX9_pass_150 rfl ?_
        refine J_icmpne 165 C iX9_pass_151 rfl (fun h151 => ?_) (fun h151 => absurd h151 (by decide))
        refine J_aload_n C iX9_pass_165 rfl rfl ?_
        refine J_iconst 1 C iX9_pass_166 rfl ?_
        refine J_aload_n C iX9_pass_167 rfl rfl ?_
        refine J_iconst 1 C iX9_pass_168 rfl ?_
        refine J_iald (n := 4) (f := rowF p hh1 ff1 tt1 ((toV Z) k)) (((arrI Z n1 3 (upd (upd (upd (fun _ => 0) 0 (nI (hh1 ((toV Z) k)))) 1 (cuI (ff1 ((toV Z) k)))) 2 (cuI (tt1 ((toV Z) k)))) ++ wSim Z s (toN Z) (toM Z) hA lA oA tA eA (fun j => some (rw j)) (fun j => some (lr j)) fo ft fe dy cc1)).length + ((toV Z) k)) C iX9_pass_169 (mid_at (A := (arrI Z n1 3 (upd (upd (upd (fun _ => 0) 0 (nI (hh1 ((toV Z) k)))) 1 (cuI (ff1 ((toV Z) k)))) 2 (cuI (tt1 ((toV Z) k)))) ++ wSim Z s (toN Z) (toM Z) hA lA oA tA eA (fun j => some (rw j)) (fun j => some (lr j)) fo ft fe dy cc1)) (M := wRw Z (toN Z) rw p hh1 ff1 tt1) (B := (wPl Z L ++ wLr Z (toM Z) lr (toK Z) (toV Z))) (by simp only [List.append_assoc, List.append_nil, List.nil_append]) (wRw_at (by omega))) (vp_in_nI (n := 1) (by decide) (by decide)) ?_
        refine J_st (.int (nI (hh1 ((toV Z) k))) :: .int 1 :: .ref (rw ((toV Z) k)) :: []) rfl ?_
        refine J_aload_n C iX9_pass_170 rfl rfl ?_
        refine J_get (.ref oA) 1 C iX9_pass_171 gf_X9_20 rfl rfl ?_
        refine J_iload_n C iX9_pass_174 rfl rfl ?_
        refine J_aaldT 4 C iX9_pass_175 rfl (vp_in_nI (n := k) (by omega) (by omega)) ?_
        rw [nI_clamp (n := k) (by omega)]
        rw [eo9]
        refine J_st (.ref ao :: .int (nI (hh1 ((toV Z) k))) :: .int 1 :: .ref (rw ((toV Z) k)) :: []) rfl ?_
        refine J_aload_n C iX9_pass_176 rfl rfl ?_
        obtain ⟨j3, e3, f3⟩ := InT.at ho
        refine J_cVb (As := [.ref s]) (st := .int (nI (hh1 ((toV Z) k))) :: .int 1 :: .ref (rw ((toV Z) k)) :: []) (rc2 := 0 + 1 * (1 * (4 - (k + 1)))) (rs2 := 0 + 1 * (3 * (4 - (k + 1)))) (w0 := ((wSim Z s (toN Z) (toM Z) hA lA oA tA eA (fun j => some (rw j)) (fun j => some (lr j)) fo ft fe dy cc1 ++ wRw Z (toN Z) rw p hh1 ff1 tt1) ++ wPl Z L)) (q0 := ((wSim Z s (toN Z) (toM Z) hA lA oA tA eA (fun j => some (rw j)) (fun j => some (lr j)) fo ft fe dy cc1 ++ wRw Z (toN Z) rw p hh1 ff1 tt1)).length + j3) C iX9_pass_177 lm_X9_63 yc_X10_of yv_X10_of (c_X10_of (p := p) (h := hh1) (f := ff1) (t := tt1) hI2 (by omega) 2 ho) rfl rfl (mid_at (A := (wSim Z s (toN Z) (toM Z) hA lA oA tA eA (fun j => some (rw j)) (fun j => some (lr j)) fo ft fe dy cc1 ++ wRw Z (toN Z) rw p hh1 ff1 tt1)) (M := wPl Z L) (B := []) (by simp only [List.append_assoc, List.append_nil, List.nil_append]) (wPl_at f3)) (arrI Z n1 3 (upd (upd (upd (fun _ => 0) 0 (nI (hh1 ((toV Z) k)))) 1 (cuI (ff1 ((toV Z) k)))) 2 (cuI (tt1 ((toV Z) k))))) (wLr Z (toM Z) lr (toK Z) (toV Z)) (by simp only [List.append_assoc, List.append_nil, List.nil_append]) rfl (rmK_le (by omega) (by decide)) (Nat.le_of_ble_eq_true rfl) (Nat.zero_add _).symm (Nat.zero_add _).symm ?_
        rintro _ _ ⟨rfl, rfl⟩
        refine J_st (.int (ofN (toN Z) dy p hh1 ff1 tt1 2 (oneQ Z k)) :: .int (nI (hh1 ((toV Z) k))) :: .int 1 :: .ref (rw ((toV Z) k)) :: []) rfl ?_
        refine J_ws ((((arrI Z n1 3 (upd (upd (upd (fun _ => 0) 0 (nI (hh1 ((toV Z) k)))) 1 (cuI (ff1 ((toV Z) k)))) 2 (cuI (tt1 ((toV Z) k)))) ++ wSim Z s (toN Z) (toM Z) hA lA oA tA eA (fun j => some (rw j)) (fun j => some (lr j)) fo ft fe dy cc1) ++ wRw Z (toN Z) rw p hh1 ff1 tt1) ++ wPl Z L) ++ wLr Z (toM Z) lr (toK Z) (toV Z)) (by simp only [List.append_assoc, List.append_nil, List.nil_append]) ?_
        refine J_aload_n C iX9_pass_180 rfl rfl ?_
        refine J_iconst 1 C iX9_pass_181 rfl ?_
        refine J_iald (n := 4) (f := rowF p hh1 ff1 tt1 ((toV Z) k)) (((arrI Z n1 3 (upd (upd (upd (fun _ => 0) 0 (nI (hh1 ((toV Z) k)))) 1 (cuI (ff1 ((toV Z) k)))) 2 (cuI (tt1 ((toV Z) k)))) ++ wSim Z s (toN Z) (toM Z) hA lA oA tA eA (fun j => some (rw j)) (fun j => some (lr j)) fo ft fe dy cc1)).length + ((toV Z) k)) C iX9_pass_182 (mid_at (A := (arrI Z n1 3 (upd (upd (upd (fun _ => 0) 0 (nI (hh1 ((toV Z) k)))) 1 (cuI (ff1 ((toV Z) k)))) 2 (cuI (tt1 ((toV Z) k)))) ++ wSim Z s (toN Z) (toM Z) hA lA oA tA eA (fun j => some (rw j)) (fun j => some (lr j)) fo ft fe dy cc1)) (M := wRw Z (toN Z) rw p hh1 ff1 tt1) (B := (wPl Z L ++ wLr Z (toM Z) lr (toK Z) (toV Z))) (by simp only [List.append_assoc, List.append_nil, List.nil_append]) (wRw_at (by omega))) (vp_in_nI (n := 1) (by decide) (by decide)) ?_
        refine J_st (.int (nI (hh1 ((toV Z) k))) :: .int (ofN (toN Z) dy p hh1 ff1 tt1 2 (oneQ Z k)) :: .int (nI (hh1 ((toV Z) k))) :: .int 1 :: .ref (rw ((toV Z) k)) :: []) rfl ?_
        refine J_ineg C iX9_pass_183 ?_
        refine J_bipush 30 C iX9_pass_184 rfl ?_
        refine J_aload_n C iX9_pass_186 rfl rfl ?_
        refine J_iconst 1 C iX9_pass_187 rfl ?_
        refine J_iald (n := 4) (f := rowF p hh1 ff1 tt1 ((toV Z) k)) (((arrI Z n1 3 (upd (upd (upd (fun _ => 0) 0 (nI (hh1 ((toV Z) k)))) 1 (cuI (ff1 ((toV Z) k)))) 2 (cuI (tt1 ((toV Z) k)))) ++ wSim Z s (toN Z) (toM Z) hA lA oA tA eA (fun j => some (rw j)) (fun j => some (lr j)) fo ft fe dy cc1)).length + ((toV Z) k)) C iX9_pass_188 (mid_at (A := (arrI Z n1 3 (upd (upd (upd (fun _ => 0) 0 (nI (hh1 ((toV Z) k)))) 1 (cuI (ff1 ((toV Z) k)))) 2 (cuI (tt1 ((toV Z) k)))) ++ wSim Z s (toN Z) (toM Z) hA lA oA tA eA (fun j => some (rw j)) (fun j => some (lr j)) fo ft fe dy cc1)) (M := wRw Z (toN Z) rw p hh1 ff1 tt1) (B := (wPl Z L ++ wLr Z (toM Z) lr (toK Z) (toV Z))) (by simp only [List.append_assoc, List.append_nil, List.nil_append]) (wRw_at (by omega))) (vp_in_nI (n := 1) (by decide) (by decide)) ?_
        refine J_st (.int (nI (hh1 ((toV Z) k))) :: .int 30 :: .int (-(nI (hh1 ((toV Z) k)))) :: .int (ofN (toN Z) dy p hh1 ff1 tt1 2 (oneQ Z k)) :: .int (nI (hh1 ((toV Z) k))) :: .int 1 :: .ref (rw ((toV Z) k)) :: []) rfl ?_
        refine J_isub C iX9_pass_189 ?_
        refine J_cSb (As := [.int (ofN (toN Z) dy p hh1 ff1 tt1 2 (oneQ Z k)), .int (-(nI (hh1 ((toV Z) k)))), .int (30 - (nI (hh1 ((toV Z) k))))]) (st := .int (nI (hh1 ((toV Z) k))) :: .int 1 :: .ref (rw ((toV Z) k)) :: []) (rc2 := 0 + 1 * (1 * (4 - (k + 1)))) (rs2 := 0 + 1 * (3 * (4 - (k + 1)))) (w0 := []) C iX9_pass_190 lm_X9_67 yc_X9_held ys_X9_held (c_X9_held (v := ofN (toN Z) dy p hh1 ff1 tt1 2 (oneQ Z k)) (lo := -(nI (hh1 ((toV Z) k)))) (hi := 30 - (nI (hh1 ((toV Z) k))))) [] ((((arrI Z n1 3 (upd (upd (upd (fun _ => 0) 0 (nI (hh1 ((toV Z) k)))) 1 (cuI (ff1 ((toV Z) k)))) 2 (cuI (tt1 ((toV Z) k)))) ++ wSim Z s (toN Z) (toM Z) hA lA oA tA eA (fun j => some (rw j)) (fun j => some (lr j)) fo ft fe dy cc1) ++ wRw Z (toN Z) rw p hh1 ff1 tt1) ++ wPl Z L) ++ wLr Z (toM Z) lr (toK Z) (toV Z)) (by simp only [List.append_assoc, List.append_nil, List.nil_append]) rfl (rmK_le (by omega) (by decide)) (Nat.le_of_ble_eq_true rfl) (Nat.zero_add _).symm (Nat.zero_add _).symm ?_
        rintro _ _ ⟨rfl, rfl⟩
        refine J_st (.int (hdI (ofN (toN Z) dy p hh1 ff1 tt1 2 (oneQ Z k)) (-(nI (hh1 ((toV Z) k)))) (30 - (nI (hh1 ((toV Z) k))))) :: .int (nI (hh1 ((toV Z) k))) :: .int 1 :: .ref (rw ((toV Z) k)) :: []) rfl ?_
        refine J_ws ((((arrI Z n1 3 (upd (upd (upd (fun _ => 0) 0 (nI (hh1 ((toV Z) k)))) 1 (cuI (ff1 ((toV Z) k)))) 2 (cuI (tt1 ((toV Z) k)))) ++ wSim Z s (toN Z) (toM Z) hA lA oA tA eA (fun j => some (rw j)) (fun j => some (lr j)) fo ft fe dy cc1) ++ wRw Z (toN Z) rw p hh1 ff1 tt1) ++ wPl Z L) ++ wLr Z (toM Z) lr (toK Z) (toV Z)) (by simp only [List.append_assoc, List.append_nil, List.nil_append]) ?_
        refine J_iadd C iX9_pass_193 ?_
        refine J_iast (n := 4) (f := rowF p hh1 ff1 tt1 ((toV Z) k)) ((((arrI Z n1 3 (upd (upd (upd (fun _ => 0) 0 (nI (hh1 ((toV Z) k)))) 1 (cuI (ff1 ((toV Z) k)))) 2 (cuI (tt1 ((toV Z) k)))) ++ wSim Z s (toN Z) (toM Z) hA lA oA tA eA (fun j => some (rw j)) (fun j => some (lr j)) fo ft fe dy cc1) ++ wRw Z (toN Z) rw p (upN hh1 ((toV Z) k) (raN (hh1 (toV Z k)) (ofN (toN Z) dy p hh1 ff1 tt1 2 (oneQ Z k)))) ff1 tt1) ++ wPl Z L) ++ wLr Z (toM Z) lr (toK Z) (toV Z)) (((arrI Z n1 3 (upd (upd (upd (fun _ => 0) 0 (nI (hh1 ((toV Z) k)))) 1 (cuI (ff1 ((toV Z) k)))) 2 (cuI (tt1 ((toV Z) k)))) ++ wSim Z s (toN Z) (toM Z) hA lA oA tA eA (fun j => some (rw j)) (fun j => some (lr j)) fo ft fe dy cc1)).length + ((toV Z) k)) C iX9_pass_194 (mid_at (A := (arrI Z n1 3 (upd (upd (upd (fun _ => 0) 0 (nI (hh1 ((toV Z) k)))) 1 (cuI (ff1 ((toV Z) k)))) 2 (cuI (tt1 ((toV Z) k)))) ++ wSim Z s (toN Z) (toM Z) hA lA oA tA eA (fun j => some (rw j)) (fun j => some (lr j)) fo ft fe dy cc1)) (M := wRw Z (toN Z) rw p hh1 ff1 tt1) (B := (wPl Z L ++ wLr Z (toM Z) lr (toK Z) (toV Z))) (by simp only [List.append_assoc, List.append_nil, List.nil_append]) (wRw_at (by omega))) (vp_in_nI (n := 1) (by decide) (by decide)) ?_ ?_
        · rw [show Int32.toNatClampNeg 1 = 1 from rfl]; rw [show (nI (hh1 ((toV Z) k))) + (hdI (ofN (toN Z) dy p hh1 ff1 tt1 2 (oneQ Z k)) (-(nI (hh1 ((toV Z) k)))) (30 - (nI (hh1 ((toV Z) k))))) = nI (raN (hh1 (toV Z k)) (ofN (toN Z) dy p hh1 ff1 tt1 2 (oneQ Z k))) from (hd_ra (by omega) _).1]; exact (mid_set (A := (arrI Z n1 3 (upd (upd (upd (fun _ => 0) 0 (nI (hh1 ((toV Z) k)))) 1 (cuI (ff1 ((toV Z) k)))) 2 (cuI (tt1 ((toV Z) k)))) ++ wSim Z s (toN Z) (toM Z) hA lA oA tA eA (fun j => some (rw j)) (fun j => some (lr j)) fo ft fe dy cc1)) (M := wRw Z (toN Z) rw p hh1 ff1 tt1) (B := (wPl Z L ++ wLr Z (toM Z) lr (toK Z) (toV Z))) (by simp only [List.append_assoc, List.append_nil, List.nil_append]) (by rw [wRw_len]; omega) (wRw_set (by omega) row_h (fun j hj hne => by simp [upN, hne]))).trans (by simp only [List.append_assoc, List.append_nil, List.nil_append])
        have h3 : pd3 Z p dy hh1 ff1 tt1 k = (upN hh1 ((toV Z) k) (raN (hh1 (toV Z k)) (ofN (toN Z) dy p hh1 ff1 tt1 2 (oneQ Z k))), ff1, tt1) := by rw [pd3, if_neg (by omega), if_neg (by omega)]
        have ok3 : SnOk (toN Z) p (upN hh1 ((toV Z) k) (raN (hh1 (toV Z k)) (ofN (toN Z) dy p hh1 ff1 tt1 2 (oneQ Z k)))) ff1 tt1 := (hI2.upH (hd_ra (by omega) _).2)
        generalize upN hh1 ((toV Z) k) (raN (hh1 (toV Z k)) (ofN (toN Z) dy p hh1 ff1 tt1 2 (oneQ Z k))) = h3_ at h3 ok3 ⊢
        have hv3 := (ok3.2 (toV Z k) hvl)
        refine J_aload_n C iX9_pass_195 rfl rfl ?_
        refine J_dup C iX9_pass_196 rfl ?_
        refine J_get (.int cc1) 1 C iX9_pass_197 gf_X9_39 rfl rfl ?_
        refine J_aload_n C iX9_pass_200 rfl rfl ?_
        refine J_iconst 1 C iX9_pass_201 rfl ?_
        refine J_iald (n := 4) (f := rowF p h3_ ff1 tt1 ((toV Z) k)) (((arrI Z n1 3 (upd (upd (upd (fun _ => 0) 0 (nI (hh1 ((toV Z) k)))) 1 (cuI (ff1 ((toV Z) k)))) 2 (cuI (tt1 ((toV Z) k)))) ++ wSim Z s (toN Z) (toM Z) hA lA oA tA eA (fun j => some (rw j)) (fun j => some (lr j)) fo ft fe dy cc1)).length + ((toV Z) k)) C iX9_pass_202 (mid_at (A := (arrI Z n1 3 (upd (upd (upd (fun _ => 0) 0 (nI (hh1 ((toV Z) k)))) 1 (cuI (ff1 ((toV Z) k)))) 2 (cuI (tt1 ((toV Z) k)))) ++ wSim Z s (toN Z) (toM Z) hA lA oA tA eA (fun j => some (rw j)) (fun j => some (lr j)) fo ft fe dy cc1)) (M := wRw Z (toN Z) rw p h3_ ff1 tt1) (B := (wPl Z L ++ wLr Z (toM Z) lr (toK Z) (toV Z))) (by simp only [List.append_assoc, List.append_nil, List.nil_append]) (wRw_at (by omega))) (vp_in_nI (n := 1) (by decide) (by decide)) ?_
        refine J_st (.int (nI (h3_ ((toV Z) k))) :: .int cc1 :: .ref s :: []) rfl ?_
        refine J_aload_n C iX9_pass_203 rfl rfl ?_
        refine J_iconst 0 C iX9_pass_204 rfl ?_
        refine J_iald 0 C iX9_pass_205 rfl (vp_in_nI (n := 0) (by omega) (by omega)) ?_
        rw [show Int32.toNatClampNeg 0 = 0 from rfl]
        by_cases he1 : h3_ (toV Z k) = hh1 (toV Z k)
        · refine J_icmpne 231 C iX9_pass_206 rfl (fun h206 => absurd (show nI (h3_ (toV Z k)) = nI (hh1 (toV Z k)) from congrArg nI he1) h206) (fun h206 => ?_)
          refine J_aload_n C iX9_pass_209 rfl rfl ?_
          refine J_iconst 2 C iX9_pass_210 rfl ?_
          refine J_iald (n := 4) (f := rowF p h3_ ff1 tt1 ((toV Z) k)) (((arrI Z n1 3 (upd (upd (upd (fun _ => 0) 0 (nI (hh1 ((toV Z) k)))) 1 (cuI (ff1 ((toV Z) k)))) 2 (cuI (tt1 ((toV Z) k)))) ++ wSim Z s (toN Z) (toM Z) hA lA oA tA eA (fun j => some (rw j)) (fun j => some (lr j)) fo ft fe dy cc1)).length + ((toV Z) k)) C iX9_pass_211 (mid_at (A := (arrI Z n1 3 (upd (upd (upd (fun _ => 0) 0 (nI (hh1 ((toV Z) k)))) 1 (cuI (ff1 ((toV Z) k)))) 2 (cuI (tt1 ((toV Z) k)))) ++ wSim Z s (toN Z) (toM Z) hA lA oA tA eA (fun j => some (rw j)) (fun j => some (lr j)) fo ft fe dy cc1)) (M := wRw Z (toN Z) rw p h3_ ff1 tt1) (B := (wPl Z L ++ wLr Z (toM Z) lr (toK Z) (toV Z))) (by simp only [List.append_assoc, List.append_nil, List.nil_append]) (wRw_at (by omega))) (vp_in_nI (n := 2) (by decide) (by decide)) ?_
          refine J_st (.int (cuI (ff1 ((toV Z) k))) :: .int cc1 :: .ref s :: []) rfl ?_
          refine J_aload_n C iX9_pass_212 rfl rfl ?_
          refine J_iconst 1 C iX9_pass_213 rfl ?_
          refine J_iald 0 C iX9_pass_214 rfl (vp_in_nI (n := 1) (by omega) (by omega)) ?_
          rw [show Int32.toNatClampNeg 1 = 1 from rfl]
          by_cases he2 : ff1 (toV Z k) = ff1 (toV Z k)
          · refine J_icmpne 231 C iX9_pass_215 rfl (fun h215 => absurd (show cuI (ff1 (toV Z k)) = cuI (ff1 (toV Z k)) from congrArg cuI he2) h215) (fun h215 => ?_)
            refine J_aload_n C iX9_pass_218 rfl rfl ?_
            refine J_iconst 3 C iX9_pass_219 rfl ?_
            refine J_iald (n := 4) (f := rowF p h3_ ff1 tt1 ((toV Z) k)) (((arrI Z n1 3 (upd (upd (upd (fun _ => 0) 0 (nI (hh1 ((toV Z) k)))) 1 (cuI (ff1 ((toV Z) k)))) 2 (cuI (tt1 ((toV Z) k)))) ++ wSim Z s (toN Z) (toM Z) hA lA oA tA eA (fun j => some (rw j)) (fun j => some (lr j)) fo ft fe dy cc1)).length + ((toV Z) k)) C iX9_pass_220 (mid_at (A := (arrI Z n1 3 (upd (upd (upd (fun _ => 0) 0 (nI (hh1 ((toV Z) k)))) 1 (cuI (ff1 ((toV Z) k)))) 2 (cuI (tt1 ((toV Z) k)))) ++ wSim Z s (toN Z) (toM Z) hA lA oA tA eA (fun j => some (rw j)) (fun j => some (lr j)) fo ft fe dy cc1)) (M := wRw Z (toN Z) rw p h3_ ff1 tt1) (B := (wPl Z L ++ wLr Z (toM Z) lr (toK Z) (toV Z))) (by simp only [List.append_assoc, List.append_nil, List.nil_append]) (wRw_at (by omega))) (vp_in_nI (n := 3) (by decide) (by decide)) ?_
            refine J_st (.int (cuI (tt1 ((toV Z) k))) :: .int cc1 :: .ref s :: []) rfl ?_
            refine J_aload_n C iX9_pass_221 rfl rfl ?_
            refine J_iconst 2 C iX9_pass_222 rfl ?_
            refine J_iald 0 C iX9_pass_223 rfl (vp_in_nI (n := 2) (by omega) (by omega)) ?_
            rw [show Int32.toNatClampNeg 2 = 2 from rfl]
            by_cases he3 : tt1 (toV Z k) = tt1 (toV Z k)
            · refine J_icmpne 231 C iX9_pass_224 rfl (fun h224 => absurd (show cuI (tt1 (toV Z k)) = cuI (tt1 (toV Z k)) from congrArg cuI he3) h224) (fun h224 => ?_)
              refine J_iconst 0 C iX9_pass_227 rfl ?_
              refine J_goto 232 C iX9_pass_228 rfl ?_
              refine J_iadd C iX9_pass_232 ?_
              refine J_put ((((arrI Z n1 3 (upd (upd (upd (fun _ => 0) 0 (nI (hh1 ((toV Z) k)))) 1 (cuI (ff1 ((toV Z) k)))) 2 (cuI (tt1 ((toV Z) k)))) ++ wSim Z s (toN Z) (toM Z) hA lA oA tA eA (fun j => some (rw j)) (fun j => some (lr j)) fo ft fe dy (cc1 + 0)) ++ wRw Z (toN Z) rw p h3_ ff1 tt1) ++ wPl Z L) ++ wLr Z (toM Z) lr (toK Z) (toV Z)) 1 C iX9_pass_233 pf_X9_39 rfl rfl rfl (Nat.le_of_ble_eq_true rfl) rfl ?_
              refine J_drop [] (arrI Z n1 3 (upd (upd (upd (fun _ => 0) 0 (nI (hh1 ((toV Z) k)))) 1 (cuI (ff1 ((toV Z) k)))) 2 (cuI (tt1 ((toV Z) k))))) (((wSim Z s (toN Z) (toM Z) hA lA oA tA eA (fun j => some (rw j)) (fun j => some (lr j)) fo ft fe dy (cc1 + 0) ++ wRw Z (toN Z) rw p h3_ ff1 tt1) ++ wPl Z L) ++ wLr Z (toM Z) lr (toK Z) (toV Z)) (by simp only [List.append_assoc, List.append_nil, List.nil_append]) ?_
              refine J_ws (((wSim Z s (toN Z) (toM Z) hA lA oA tA eA (fun j => some (rw j)) (fun j => some (lr j)) fo ft fe dy (cc1 + 0) ++ wRw Z (toN Z) rw p h3_ ff1 tt1) ++ wPl Z L) ++ wLr Z (toM Z) lr (toK Z) (toV Z)) (by simp only [List.append_assoc, List.append_nil, List.nil_append]) ?_
              refine J_iinc ((nI k) + 1) [(1, .int ((nI k) + 1)), (3, .ref n1), (2, .ref (rw ((toV Z) k))), (0, .ref s)] C iX9_pass_236 rfl rfl (by decide) rfl ?_
              rw [show (nI k) + 1 = nI (k + 1) from nI_add _ _]
              refine J_goto 2 C iX9_pass_239 rfl ?_
              refine J_lvm [(1, .int (nI (k + 1))), (0, .ref s)] rfl ?_
              refine J_room (rc2 := 1 * (4 - (k + 1))) (rs2 := 3 * (4 - (k + 1))) (by omega) (by omega) ?_
              exact ih (h3_, ff1, tt1, (cc1 + 0)) ⟨by rw [pdN, hI1]; exact pdS_yes hgo h3 (if_pos ⟨he1, he2, he3⟩), ok3⟩
            · refine J_icmpne 231 C iX9_pass_224 rfl (fun h224 => ?_) (fun h224 => absurd h224 (fun e => he3 ((cu_inj (by omega) (by omega)).mp e)))
              refine J_iconst 1 C iX9_pass_231 rfl ?_
              refine J_iadd C iX9_pass_232 ?_
              refine J_put ((((arrI Z n1 3 (upd (upd (upd (fun _ => 0) 0 (nI (hh1 ((toV Z) k)))) 1 (cuI (ff1 ((toV Z) k)))) 2 (cuI (tt1 ((toV Z) k)))) ++ wSim Z s (toN Z) (toM Z) hA lA oA tA eA (fun j => some (rw j)) (fun j => some (lr j)) fo ft fe dy (cc1 + 1)) ++ wRw Z (toN Z) rw p h3_ ff1 tt1) ++ wPl Z L) ++ wLr Z (toM Z) lr (toK Z) (toV Z)) 1 C iX9_pass_233 pf_X9_39 rfl rfl rfl (Nat.le_of_ble_eq_true rfl) rfl ?_
              refine J_drop [] (arrI Z n1 3 (upd (upd (upd (fun _ => 0) 0 (nI (hh1 ((toV Z) k)))) 1 (cuI (ff1 ((toV Z) k)))) 2 (cuI (tt1 ((toV Z) k))))) (((wSim Z s (toN Z) (toM Z) hA lA oA tA eA (fun j => some (rw j)) (fun j => some (lr j)) fo ft fe dy (cc1 + 1) ++ wRw Z (toN Z) rw p h3_ ff1 tt1) ++ wPl Z L) ++ wLr Z (toM Z) lr (toK Z) (toV Z)) (by simp only [List.append_assoc, List.append_nil, List.nil_append]) ?_
              refine J_ws (((wSim Z s (toN Z) (toM Z) hA lA oA tA eA (fun j => some (rw j)) (fun j => some (lr j)) fo ft fe dy (cc1 + 1) ++ wRw Z (toN Z) rw p h3_ ff1 tt1) ++ wPl Z L) ++ wLr Z (toM Z) lr (toK Z) (toV Z)) (by simp only [List.append_assoc, List.append_nil, List.nil_append]) ?_
              refine J_iinc ((nI k) + 1) [(1, .int ((nI k) + 1)), (3, .ref n1), (2, .ref (rw ((toV Z) k))), (0, .ref s)] C iX9_pass_236 rfl rfl (by decide) rfl ?_
              rw [show (nI k) + 1 = nI (k + 1) from nI_add _ _]
              refine J_goto 2 C iX9_pass_239 rfl ?_
              refine J_lvm [(1, .int (nI (k + 1))), (0, .ref s)] rfl ?_
              refine J_room (rc2 := 1 * (4 - (k + 1))) (rs2 := 3 * (4 - (k + 1))) (by omega) (by omega) ?_
              exact ih (h3_, ff1, tt1, (cc1 + 1)) ⟨by rw [pdN, hI1]; exact pdS_yes hgo h3 (if_neg (fun q => he3 q.2.2)), ok3⟩
          · refine J_icmpne 231 C iX9_pass_215 rfl (fun h215 => ?_) (fun h215 => absurd h215 (fun e => he2 ((cu_inj (by omega) (by omega)).mp e)))
            refine J_iconst 1 C iX9_pass_231 rfl ?_
            refine J_iadd C iX9_pass_232 ?_
            refine J_put ((((arrI Z n1 3 (upd (upd (upd (fun _ => 0) 0 (nI (hh1 ((toV Z) k)))) 1 (cuI (ff1 ((toV Z) k)))) 2 (cuI (tt1 ((toV Z) k)))) ++ wSim Z s (toN Z) (toM Z) hA lA oA tA eA (fun j => some (rw j)) (fun j => some (lr j)) fo ft fe dy (cc1 + 1)) ++ wRw Z (toN Z) rw p h3_ ff1 tt1) ++ wPl Z L) ++ wLr Z (toM Z) lr (toK Z) (toV Z)) 1 C iX9_pass_233 pf_X9_39 rfl rfl rfl (Nat.le_of_ble_eq_true rfl) rfl ?_
            refine J_drop [] (arrI Z n1 3 (upd (upd (upd (fun _ => 0) 0 (nI (hh1 ((toV Z) k)))) 1 (cuI (ff1 ((toV Z) k)))) 2 (cuI (tt1 ((toV Z) k))))) (((wSim Z s (toN Z) (toM Z) hA lA oA tA eA (fun j => some (rw j)) (fun j => some (lr j)) fo ft fe dy (cc1 + 1) ++ wRw Z (toN Z) rw p h3_ ff1 tt1) ++ wPl Z L) ++ wLr Z (toM Z) lr (toK Z) (toV Z)) (by simp only [List.append_assoc, List.append_nil, List.nil_append]) ?_
            refine J_ws (((wSim Z s (toN Z) (toM Z) hA lA oA tA eA (fun j => some (rw j)) (fun j => some (lr j)) fo ft fe dy (cc1 + 1) ++ wRw Z (toN Z) rw p h3_ ff1 tt1) ++ wPl Z L) ++ wLr Z (toM Z) lr (toK Z) (toV Z)) (by simp only [List.append_assoc, List.append_nil, List.nil_append]) ?_
            refine J_iinc ((nI k) + 1) [(1, .int ((nI k) + 1)), (3, .ref n1), (2, .ref (rw ((toV Z) k))), (0, .ref s)] C iX9_pass_236 rfl rfl (by decide) rfl ?_
            rw [show (nI k) + 1 = nI (k + 1) from nI_add _ _]
            refine J_goto 2 C iX9_pass_239 rfl ?_
            refine J_lvm [(1, .int (nI (k + 1))), (0, .ref s)] rfl ?_
            refine J_room (rc2 := 1 * (4 - (k + 1))) (rs2 := 3 * (4 - (k + 1))) (by omega) (by omega) ?_
            exact ih (h3_, ff1, tt1, (cc1 + 1)) ⟨by rw [pdN, hI1]; exact pdS_yes hgo h3 (if_neg (fun q => he2 q.2.1)), ok3⟩
        · refine J_icmpne 231 C iX9_pass_206 rfl (fun h206 => ?_) (fun h206 => absurd h206 (fun e => he1 ((nI_eq (by omega) (by omega)).mp e)))
          refine J_iconst 1 C iX9_pass_231 rfl ?_
          refine J_iadd C iX9_pass_232 ?_
          refine J_put ((((arrI Z n1 3 (upd (upd (upd (fun _ => 0) 0 (nI (hh1 ((toV Z) k)))) 1 (cuI (ff1 ((toV Z) k)))) 2 (cuI (tt1 ((toV Z) k)))) ++ wSim Z s (toN Z) (toM Z) hA lA oA tA eA (fun j => some (rw j)) (fun j => some (lr j)) fo ft fe dy (cc1 + 1)) ++ wRw Z (toN Z) rw p h3_ ff1 tt1) ++ wPl Z L) ++ wLr Z (toM Z) lr (toK Z) (toV Z)) 1 C iX9_pass_233 pf_X9_39 rfl rfl rfl (Nat.le_of_ble_eq_true rfl) rfl ?_
          refine J_drop [] (arrI Z n1 3 (upd (upd (upd (fun _ => 0) 0 (nI (hh1 ((toV Z) k)))) 1 (cuI (ff1 ((toV Z) k)))) 2 (cuI (tt1 ((toV Z) k))))) (((wSim Z s (toN Z) (toM Z) hA lA oA tA eA (fun j => some (rw j)) (fun j => some (lr j)) fo ft fe dy (cc1 + 1) ++ wRw Z (toN Z) rw p h3_ ff1 tt1) ++ wPl Z L) ++ wLr Z (toM Z) lr (toK Z) (toV Z)) (by simp only [List.append_assoc, List.append_nil, List.nil_append]) ?_
          refine J_ws (((wSim Z s (toN Z) (toM Z) hA lA oA tA eA (fun j => some (rw j)) (fun j => some (lr j)) fo ft fe dy (cc1 + 1) ++ wRw Z (toN Z) rw p h3_ ff1 tt1) ++ wPl Z L) ++ wLr Z (toM Z) lr (toK Z) (toV Z)) (by simp only [List.append_assoc, List.append_nil, List.nil_append]) ?_
          refine J_iinc ((nI k) + 1) [(1, .int ((nI k) + 1)), (3, .ref n1), (2, .ref (rw ((toV Z) k))), (0, .ref s)] C iX9_pass_236 rfl rfl (by decide) rfl ?_
          rw [show (nI k) + 1 = nI (k + 1) from nI_add _ _]
          refine J_goto 2 C iX9_pass_239 rfl ?_
          refine J_lvm [(1, .int (nI (k + 1))), (0, .ref s)] rfl ?_
          refine J_room (rc2 := 1 * (4 - (k + 1))) (rs2 := 3 * (4 - (k + 1))) (by omega) (by omega) ?_
          exact ih (h3_, ff1, tt1, (cc1 + 1)) ⟨by rw [pdN, hI1]; exact pdS_yes hgo h3 (if_neg (fun q => he1 q.1)), ok3⟩
    · obtain ⟨ae, ee9, he⟩ : ∃ a, fe k = some a ∧ InT (toN Z) L 4 a (tesQ Z k) := by rw [if_pos hw] at hE; exact hE
      refine J_aload_n C iX9_pass_11 rfl rfl ?_
      refine J_get (.ref eA) 0 C iX9_pass_12 gf_X9_27 rfl rfl ?_
      refine J_iload_n C iX9_pass_15 rfl rfl ?_
      refine J_aaldT 5 C iX9_pass_16 rfl (vp_in_nI (n := k) (by omega) (by omega)) ?_
      rw [nI_clamp (n := k) (by omega)]
      rw [ee9]
      refine J_st (.ref ae :: []) rfl ?_
      refine J_ifnull C iX9_pass_17 ?_
      refine J_aload_n C iX9_pass_20 rfl rfl ?_
      refine J_get (.ref eA) 0 C iX9_pass_21 gf_X9_27 rfl rfl ?_
      refine J_iload_n C iX9_pass_24 rfl rfl ?_
      refine J_aaldT 5 C iX9_pass_25 rfl (vp_in_nI (n := k) (by omega) (by omega)) ?_
      rw [nI_clamp (n := k) (by omega)]
      rw [ee9]
      refine J_st (.ref ae :: []) rfl ?_
      refine J_aload_n C iX9_pass_26 rfl rfl ?_
      obtain ⟨j4, e4, f4⟩ := InT.at he
      refine J_cVb (As := [.ref s]) (st := []) (rc2 := 1 + 1 * (1 * (4 - (k + 1)))) (rs2 := 3 + 1 * (3 * (4 - (k + 1)))) (w0 := ((wSim Z s (toN Z) (toM Z) hA lA oA tA eA (fun j => some (rw j)) (fun j => some (lr j)) fo ft fe dy cc1 ++ wRw Z (toN Z) rw p hh1 ff1 tt1) ++ wPl Z L)) (q0 := ((wSim Z s (toN Z) (toM Z) hA lA oA tA eA (fun j => some (rw j)) (fun j => some (lr j)) fo ft fe dy cc1 ++ wRw Z (toN Z) rw p hh1 ff1 tt1)).length + j4) C iX9_pass_27 lm_X9_63 yc_X10_of yv_X10_of (c_X10_of (p := p) (h := hh1) (f := ff1) (t := tt1) hI2 (by omega) 4 he) rfl rfl (mid_at (A := (wSim Z s (toN Z) (toM Z) hA lA oA tA eA (fun j => some (rw j)) (fun j => some (lr j)) fo ft fe dy cc1 ++ wRw Z (toN Z) rw p hh1 ff1 tt1)) (M := wPl Z L) (B := []) (by simp only [List.append_assoc, List.append_nil, List.nil_append]) (wPl_at f4)) [] (wLr Z (toM Z) lr (toK Z) (toV Z)) (by simp only [List.append_assoc, List.append_nil, List.nil_append]) rfl (rmK_le (by omega) (by decide)) (Nat.le_of_ble_eq_true rfl) (Nat.zero_add _).symm (Nat.zero_add _).symm ?_
      rintro _ _ ⟨rfl, rfl⟩
      refine J_st (.int (ofN (toN Z) dy p hh1 ff1 tt1 4 (tesQ Z k)) :: []) rfl ?_
      refine J_ws (((wSim Z s (toN Z) (toM Z) hA lA oA tA eA (fun j => some (rw j)) (fun j => some (lr j)) fo ft fe dy cc1 ++ wRw Z (toN Z) rw p hh1 ff1 tt1) ++ wPl Z L) ++ wLr Z (toM Z) lr (toK Z) (toV Z)) (by simp only [List.append_assoc, List.append_nil, List.nil_append]) ?_
      refine J_iconst 1 C iX9_pass_30 rfl ?_
      by_cases hte : ofN (toN Z) dy p hh1 ff1 tt1 4 (tesQ Z k) = 1
      · refine J_icmpeq 37 C iX9_pass_31 rfl (fun h31 => ?_) (fun h31 => absurd hte h31)
        have hgo : ¬ (hasT Z k = true ∧ ¬ ofN (toN Z) dy p hh1 ff1 tt1 4 (tesQ Z k) = 1) := (fun q => q.2 hte)
        refine J_aload_n C iX9_pass_37 rfl rfl ?_
        refine J_get (.ref hA) 0 C iX9_pass_38 gf_X9_9 rfl rfl ?_
        refine J_aload_n C iX9_pass_41 rfl rfl ?_
        refine J_get (.ref lA) 0 C iX9_pass_42 gf_X9_15 rfl rfl ?_
        refine J_iload_n C iX9_pass_45 rfl rfl ?_
        refine J_aaldA 2 C iX9_pass_46 rfl (vp_in_nI (n := k) (by omega) (by omega)) ?_
        rw [nI_clamp (n := k) (by omega)]
        refine J_st (.ref (lr k) :: .ref hA :: []) rfl ?_
        refine J_iconst 1 C iX9_pass_47 rfl ?_
        refine J_iald (n := 2) (f := lrwF (toK Z) (toV Z) k) ((((wSim Z s (toN Z) (toM Z) hA lA oA tA eA (fun j => some (rw j)) (fun j => some (lr j)) fo ft fe dy cc1 ++ wRw Z (toN Z) rw p hh1 ff1 tt1) ++ wPl Z L)).length + k) C iX9_pass_48 (mid_at (A := ((wSim Z s (toN Z) (toM Z) hA lA oA tA eA (fun j => some (rw j)) (fun j => some (lr j)) fo ft fe dy cc1 ++ wRw Z (toN Z) rw p hh1 ff1 tt1) ++ wPl Z L)) (M := wLr Z (toM Z) lr (toK Z) (toV Z)) (B := []) (by simp only [List.append_assoc, List.append_nil, List.nil_append]) (wLr_at (by omega))) (vp_in_nI (n := 1) (by decide) (by decide)) ?_
        refine J_st (.int (nI ((toV Z) k)) :: .ref hA :: []) rfl ?_
        refine J_aaldA 1 C iX9_pass_49 rfl (vp_in_nI (n := ((toV Z) k)) (by omega) (by omega)) ?_
        rw [nI_clamp (n := ((toV Z) k)) (by omega)]
        refine J_st (.ref (rw ((toV Z) k)) :: []) rfl ?_
        refine J_astore_n [(2, .ref (rw ((toV Z) k))), (1, .int (nI k)), (0, .ref s)] C iX9_pass_50 rfl (by decide) rfl ?_
        refine J_iconst 3 C iX9_pass_51 rfl ?_
        refine J_room (rc2 := 1 + (0 + 1 * (1 * (4 - (k + 1))))) (rs2 := 3 + (0 + 1 * (3 * (4 - (k + 1))))) (by omega) (by omega) ?_
        refine J_newI 3 C iX9_pass_52 (tsg_in (i := 132) (by decide +kernel) rfl) (by decide) rfl (by omega) (fun n2 => ?_)
        refine J_ws ((((wSim Z s (toN Z) (toM Z) hA lA oA tA eA (fun j => some (rw j)) (fun j => some (lr j)) fo ft fe dy cc1 ++ wRw Z (toN Z) rw p hh1 ff1 tt1) ++ wPl Z L) ++ wLr Z (toM Z) lr (toK Z) (toV Z)) ++ arrI Z n2 3 (fun _ => 0)) rfl ?_
        refine J_perm ((((wSim Z s (toN Z) (toM Z) hA lA oA tA eA (fun j => some (rw j)) (fun j => some (lr j)) fo ft fe dy cc1 ++ wRw Z (toN Z) rw p hh1 ff1 tt1) ++ wPl Z L) ++ arrI Z n2 3 (fun _ => 0)) ++ wLr Z (toM Z) lr (toK Z) (toV Z)) (sw2 _ _ _) ?_
        refine J_perm ((((wSim Z s (toN Z) (toM Z) hA lA oA tA eA (fun j => some (rw j)) (fun j => some (lr j)) fo ft fe dy cc1 ++ wRw Z (toN Z) rw p hh1 ff1 tt1) ++ arrI Z n2 3 (fun _ => 0)) ++ wPl Z L) ++ wLr Z (toM Z) lr (toK Z) (toV Z)) ((sw2 _ _ _).append_right _) ?_
        refine J_perm ((((wSim Z s (toN Z) (toM Z) hA lA oA tA eA (fun j => some (rw j)) (fun j => some (lr j)) fo ft fe dy cc1 ++ arrI Z n2 3 (fun _ => 0)) ++ wRw Z (toN Z) rw p hh1 ff1 tt1) ++ wPl Z L) ++ wLr Z (toM Z) lr (toK Z) (toV Z)) (((sw2 _ _ _).append_right _).append_right _) ?_
        refine J_perm ((((arrI Z n2 3 (fun _ => 0) ++ wSim Z s (toN Z) (toM Z) hA lA oA tA eA (fun j => some (rw j)) (fun j => some (lr j)) fo ft fe dy cc1) ++ wRw Z (toN Z) rw p hh1 ff1 tt1) ++ wPl Z L) ++ wLr Z (toM Z) lr (toK Z) (toV Z)) (((List.perm_append_comm.append_right _).append_right _).append_right _) ?_
        refine J_dup C iX9_pass_54 rfl ?_
        refine J_iconst 0 C iX9_pass_55 rfl ?_
        refine J_aload_n C iX9_pass_56 rfl rfl ?_
        refine J_iconst 1 C iX9_pass_57 rfl ?_
        refine J_iald (n := 4) (f := rowF p hh1 ff1 tt1 ((toV Z) k)) (((arrI Z n2 3 (fun _ => 0) ++ wSim Z s (toN Z) (toM Z) hA lA oA tA eA (fun j => some (rw j)) (fun j => some (lr j)) fo ft fe dy cc1)).length + ((toV Z) k)) C iX9_pass_58 (mid_at (A := (arrI Z n2 3 (fun _ => 0) ++ wSim Z s (toN Z) (toM Z) hA lA oA tA eA (fun j => some (rw j)) (fun j => some (lr j)) fo ft fe dy cc1)) (M := wRw Z (toN Z) rw p hh1 ff1 tt1) (B := (wPl Z L ++ wLr Z (toM Z) lr (toK Z) (toV Z))) (by simp only [List.append_assoc, List.append_nil, List.nil_append]) (wRw_at (by omega))) (vp_in_nI (n := 1) (by decide) (by decide)) ?_
        refine J_st (.int (nI (hh1 ((toV Z) k))) :: .int 0 :: .ref n2 :: .ref n2 :: []) rfl ?_
        refine J_iast ((((arrI Z n2 3 (upd (fun _ => 0) (Int32.toNatClampNeg 0) (nI (hh1 ((toV Z) k)))) ++ wSim Z s (toN Z) (toM Z) hA lA oA tA eA (fun j => some (rw j)) (fun j => some (lr j)) fo ft fe dy cc1) ++ wRw Z (toN Z) rw p hh1 ff1 tt1) ++ wPl Z L) ++ wLr Z (toM Z) lr (toK Z) (toV Z)) 0 C iX9_pass_59 rfl (vp_in_nI (n := 0) (by omega) (by omega)) rfl ?_
        rw [show Int32.toNatClampNeg 0 = 0 from rfl]
        refine J_dup C iX9_pass_60 rfl ?_
        refine J_iconst 1 C iX9_pass_61 rfl ?_
        refine J_aload_n C iX9_pass_62 rfl rfl ?_
        refine J_iconst 2 C iX9_pass_63 rfl ?_
        refine J_iald (n := 4) (f := rowF p hh1 ff1 tt1 ((toV Z) k)) (((arrI Z n2 3 (upd (fun _ => 0) 0 (nI (hh1 ((toV Z) k)))) ++ wSim Z s (toN Z) (toM Z) hA lA oA tA eA (fun j => some (rw j)) (fun j => some (lr j)) fo ft fe dy cc1)).length + ((toV Z) k)) C iX9_pass_64 (mid_at (A := (arrI Z n2 3 (upd (fun _ => 0) 0 (nI (hh1 ((toV Z) k)))) ++ wSim Z s (toN Z) (toM Z) hA lA oA tA eA (fun j => some (rw j)) (fun j => some (lr j)) fo ft fe dy cc1)) (M := wRw Z (toN Z) rw p hh1 ff1 tt1) (B := (wPl Z L ++ wLr Z (toM Z) lr (toK Z) (toV Z))) (by simp only [List.append_assoc, List.append_nil, List.nil_append]) (wRw_at (by omega))) (vp_in_nI (n := 2) (by decide) (by decide)) ?_
        refine J_st (.int (cuI (ff1 ((toV Z) k))) :: .int 1 :: .ref n2 :: .ref n2 :: []) rfl ?_
        refine J_iast ((((arrI Z n2 3 (upd (upd (fun _ => 0) 0 (nI (hh1 ((toV Z) k)))) (Int32.toNatClampNeg 1) (cuI (ff1 ((toV Z) k)))) ++ wSim Z s (toN Z) (toM Z) hA lA oA tA eA (fun j => some (rw j)) (fun j => some (lr j)) fo ft fe dy cc1) ++ wRw Z (toN Z) rw p hh1 ff1 tt1) ++ wPl Z L) ++ wLr Z (toM Z) lr (toK Z) (toV Z)) 0 C iX9_pass_65 rfl (vp_in_nI (n := 1) (by omega) (by omega)) rfl ?_
        rw [show Int32.toNatClampNeg 1 = 1 from rfl]
        refine J_dup C iX9_pass_66 rfl ?_
        refine J_iconst 2 C iX9_pass_67 rfl ?_
        refine J_aload_n C iX9_pass_68 rfl rfl ?_
        refine J_iconst 3 C iX9_pass_69 rfl ?_
        refine J_iald (n := 4) (f := rowF p hh1 ff1 tt1 ((toV Z) k)) (((arrI Z n2 3 (upd (upd (fun _ => 0) 0 (nI (hh1 ((toV Z) k)))) 1 (cuI (ff1 ((toV Z) k)))) ++ wSim Z s (toN Z) (toM Z) hA lA oA tA eA (fun j => some (rw j)) (fun j => some (lr j)) fo ft fe dy cc1)).length + ((toV Z) k)) C iX9_pass_70 (mid_at (A := (arrI Z n2 3 (upd (upd (fun _ => 0) 0 (nI (hh1 ((toV Z) k)))) 1 (cuI (ff1 ((toV Z) k)))) ++ wSim Z s (toN Z) (toM Z) hA lA oA tA eA (fun j => some (rw j)) (fun j => some (lr j)) fo ft fe dy cc1)) (M := wRw Z (toN Z) rw p hh1 ff1 tt1) (B := (wPl Z L ++ wLr Z (toM Z) lr (toK Z) (toV Z))) (by simp only [List.append_assoc, List.append_nil, List.nil_append]) (wRw_at (by omega))) (vp_in_nI (n := 3) (by decide) (by decide)) ?_
        refine J_st (.int (cuI (tt1 ((toV Z) k))) :: .int 2 :: .ref n2 :: .ref n2 :: []) rfl ?_
        refine J_iast ((((arrI Z n2 3 (upd (upd (upd (fun _ => 0) 0 (nI (hh1 ((toV Z) k)))) 1 (cuI (ff1 ((toV Z) k)))) (Int32.toNatClampNeg 2) (cuI (tt1 ((toV Z) k)))) ++ wSim Z s (toN Z) (toM Z) hA lA oA tA eA (fun j => some (rw j)) (fun j => some (lr j)) fo ft fe dy cc1) ++ wRw Z (toN Z) rw p hh1 ff1 tt1) ++ wPl Z L) ++ wLr Z (toM Z) lr (toK Z) (toV Z)) 0 C iX9_pass_71 rfl (vp_in_nI (n := 2) (by omega) (by omega)) rfl ?_
        rw [show Int32.toNatClampNeg 2 = 2 from rfl]
        refine J_astore_n [(3, .ref n2), (2, .ref (rw ((toV Z) k))), (1, .int (nI k)), (0, .ref s)] C iX9_pass_72 rfl (by decide) rfl ?_
        rcases hkin with hk0 | hk0 | hk0
        · refine J_aload_n C iX9_pass_73 rfl rfl ?_
          refine J_get (.ref lA) 1 C iX9_pass_74 gf_X9_15 rfl rfl ?_
          refine J_iload_n C iX9_pass_77 rfl rfl ?_
          refine J_aaldA 3 C iX9_pass_78 rfl (vp_in_nI (n := k) (by omega) (by omega)) ?_
          rw [nI_clamp (n := k) (by omega)]
          refine J_st (.ref (lr k) :: []) rfl ?_
          refine J_iconst 0 C iX9_pass_79 rfl ?_
          refine J_iald (n := 2) (f := lrwF (toK Z) (toV Z) k) (((((arrI Z n2 3 (upd (upd (upd (fun _ => 0) 0 (nI (hh1 ((toV Z) k)))) 1 (cuI (ff1 ((toV Z) k)))) 2 (cuI (tt1 ((toV Z) k)))) ++ wSim Z s (toN Z) (toM Z) hA lA oA tA eA (fun j => some (rw j)) (fun j => some (lr j)) fo ft fe dy cc1) ++ wRw Z (toN Z) rw p hh1 ff1 tt1) ++ wPl Z L)).length + k) C iX9_pass_80 (mid_at (A := (((arrI Z n2 3 (upd (upd (upd (fun _ => 0) 0 (nI (hh1 ((toV Z) k)))) 1 (cuI (ff1 ((toV Z) k)))) 2 (cuI (tt1 ((toV Z) k)))) ++ wSim Z s (toN Z) (toM Z) hA lA oA tA eA (fun j => some (rw j)) (fun j => some (lr j)) fo ft fe dy cc1) ++ wRw Z (toN Z) rw p hh1 ff1 tt1) ++ wPl Z L)) (M := wLr Z (toM Z) lr (toK Z) (toV Z)) (B := []) (by simp only [List.append_assoc, List.append_nil, List.nil_append]) (wLr_at (by omega))) (vp_in_nI (n := 0) (by decide) (by decide)) ?_
          refine J_st (.int (nI ((toK Z) k)) :: []) rfl ?_
          rw [hk0]
          refine J_st (.int 0 :: []) rfl ?_
          refine J_ifne 142 C iX9_pass_81 rfl (fun h81 => absurd (by decide) h81) (fun h81 => ?_)
          refine J_aload_n C iX9_pass_84 rfl rfl ?_
          refine J_get (.ref oA) 1 C iX9_pass_85 gf_X9_20 rfl rfl ?_
          refine J_iload_n C iX9_pass_88 rfl rfl ?_
          refine J_aaldT 4 C iX9_pass_89 rfl (vp_in_nI (n := k) (by omega) (by omega)) ?_
          rw [nI_clamp (n := k) (by omega)]
          rw [eo9]
          refine J_st (.ref ao :: []) rfl ?_
          refine J_aload_n C iX9_pass_90 rfl rfl ?_
          obtain ⟨j5, e5, f5⟩ := InT.at ho
          refine J_cVb (As := [.ref s]) (st := []) (rc2 := 0 + 1 * (1 * (4 - (k + 1)))) (rs2 := 0 + 1 * (3 * (4 - (k + 1)))) (w0 := ((wSim Z s (toN Z) (toM Z) hA lA oA tA eA (fun j => some (rw j)) (fun j => some (lr j)) fo ft fe dy cc1 ++ wRw Z (toN Z) rw p hh1 ff1 tt1) ++ wPl Z L)) (q0 := ((wSim Z s (toN Z) (toM Z) hA lA oA tA eA (fun j => some (rw j)) (fun j => some (lr j)) fo ft fe dy cc1 ++ wRw Z (toN Z) rw p hh1 ff1 tt1)).length + j5) C iX9_pass_91 lm_X9_63 yc_X10_of yv_X10_of (c_X10_of (p := p) (h := hh1) (f := ff1) (t := tt1) hI2 (by omega) 2 ho) rfl rfl (mid_at (A := (wSim Z s (toN Z) (toM Z) hA lA oA tA eA (fun j => some (rw j)) (fun j => some (lr j)) fo ft fe dy cc1 ++ wRw Z (toN Z) rw p hh1 ff1 tt1)) (M := wPl Z L) (B := []) (by simp only [List.append_assoc, List.append_nil, List.nil_append]) (wPl_at f5)) (arrI Z n2 3 (upd (upd (upd (fun _ => 0) 0 (nI (hh1 ((toV Z) k)))) 1 (cuI (ff1 ((toV Z) k)))) 2 (cuI (tt1 ((toV Z) k))))) (wLr Z (toM Z) lr (toK Z) (toV Z)) (by simp only [List.append_assoc, List.append_nil, List.nil_append]) rfl (rmK_le (by omega) (by decide)) (Nat.le_of_ble_eq_true rfl) (Nat.zero_add _).symm (Nat.zero_add _).symm ?_
          rintro _ _ ⟨rfl, rfl⟩
          refine J_st (.int (ofN (toN Z) dy p hh1 ff1 tt1 2 (oneQ Z k)) :: []) rfl ?_
          refine J_ws ((((arrI Z n2 3 (upd (upd (upd (fun _ => 0) 0 (nI (hh1 ((toV Z) k)))) 1 (cuI (ff1 ((toV Z) k)))) 2 (cuI (tt1 ((toV Z) k)))) ++ wSim Z s (toN Z) (toM Z) hA lA oA tA eA (fun j => some (rw j)) (fun j => some (lr j)) fo ft fe dy cc1) ++ wRw Z (toN Z) rw p hh1 ff1 tt1) ++ wPl Z L) ++ wLr Z (toM Z) lr (toK Z) (toV Z)) (by simp only [List.append_assoc, List.append_nil, List.nil_append]) ?_
          refine J_bipush 6 C iX9_pass_94 rfl ?_
          refine J_bipush 18 C iX9_pass_96 rfl ?_
          refine J_cSb (As := [.int (ofN (toN Z) dy p hh1 ff1 tt1 2 (oneQ Z k)), .int 6, .int 18]) (st := []) (rc2 := 0 + 1 * (1 * (4 - (k + 1)))) (rs2 := 0 + 1 * (3 * (4 - (k + 1)))) (w0 := []) C iX9_pass_98 lm_X9_67 yc_X9_held ys_X9_held (c_X9_held (v := ofN (toN Z) dy p hh1 ff1 tt1 2 (oneQ Z k)) (lo := 6) (hi := 18)) [] ((((arrI Z n2 3 (upd (upd (upd (fun _ => 0) 0 (nI (hh1 ((toV Z) k)))) 1 (cuI (ff1 ((toV Z) k)))) 2 (cuI (tt1 ((toV Z) k)))) ++ wSim Z s (toN Z) (toM Z) hA lA oA tA eA (fun j => some (rw j)) (fun j => some (lr j)) fo ft fe dy cc1) ++ wRw Z (toN Z) rw p hh1 ff1 tt1) ++ wPl Z L) ++ wLr Z (toM Z) lr (toK Z) (toV Z)) (by simp only [List.append_assoc, List.append_nil, List.nil_append]) rfl (rmK_le (by omega) (by decide)) (Nat.le_of_ble_eq_true rfl) (Nat.zero_add _).symm (Nat.zero_add _).symm ?_
          rintro _ _ ⟨rfl, rfl⟩
          refine J_st (.int (hdI (ofN (toN Z) dy p hh1 ff1 tt1 2 (oneQ Z k)) 6 18) :: []) rfl ?_
          refine J_ws ((((arrI Z n2 3 (upd (upd (upd (fun _ => 0) 0 (nI (hh1 ((toV Z) k)))) 1 (cuI (ff1 ((toV Z) k)))) 2 (cuI (tt1 ((toV Z) k)))) ++ wSim Z s (toN Z) (toM Z) hA lA oA tA eA (fun j => some (rw j)) (fun j => some (lr j)) fo ft fe dy cc1) ++ wRw Z (toN Z) rw p hh1 ff1 tt1) ++ wPl Z L) ++ wLr Z (toM Z) lr (toK Z) (toV Z)) (by simp only [List.append_assoc, List.append_nil, List.nil_append]) ?_
          rw [(hd_cl _).1]
          refine J_istore [(4, .int (nI (clN (ofN (toN Z) dy p hh1 ff1 tt1 2 (oneQ Z k))))), (3, .ref n2), (2, .ref (rw ((toV Z) k))), (1, .int (nI k)), (0, .ref s)] C iX9_pass_101 (by decide) rfl ?_
          refine J_aload_n C iX9_pass_103 rfl rfl ?_
          refine J_get (.ref tA) 1 C iX9_pass_104 gf_X9_24 rfl rfl ?_
          refine J_iload_n C iX9_pass_107 rfl rfl ?_
          refine J_aaldT 5 C iX9_pass_108 rfl (vp_in_nI (n := k) (by omega) (by omega)) ?_
          rw [nI_clamp (n := k) (by omega)]
          rw [et9]
          refine J_st (.ref at_ :: []) rfl ?_
          refine J_aload_n C iX9_pass_109 rfl rfl ?_
          obtain ⟨j6, e6, f6⟩ := InT.at ht
          refine J_cVb (As := [.ref s]) (st := []) (rc2 := 0 + 1 * (1 * (4 - (k + 1)))) (rs2 := 0 + 1 * (3 * (4 - (k + 1)))) (w0 := ((wSim Z s (toN Z) (toM Z) hA lA oA tA eA (fun j => some (rw j)) (fun j => some (lr j)) fo ft fe dy cc1 ++ wRw Z (toN Z) rw p hh1 ff1 tt1) ++ wPl Z L)) (q0 := ((wSim Z s (toN Z) (toM Z) hA lA oA tA eA (fun j => some (rw j)) (fun j => some (lr j)) fo ft fe dy cc1 ++ wRw Z (toN Z) rw p hh1 ff1 tt1)).length + j6) C iX9_pass_110 lm_X9_63 yc_X10_of yv_X10_of (c_X10_of (p := p) (h := hh1) (f := ff1) (t := tt1) hI2 (by omega) 2 ht) rfl rfl (mid_at (A := (wSim Z s (toN Z) (toM Z) hA lA oA tA eA (fun j => some (rw j)) (fun j => some (lr j)) fo ft fe dy cc1 ++ wRw Z (toN Z) rw p hh1 ff1 tt1)) (M := wPl Z L) (B := []) (by simp only [List.append_assoc, List.append_nil, List.nil_append]) (wPl_at f6)) (arrI Z n2 3 (upd (upd (upd (fun _ => 0) 0 (nI (hh1 ((toV Z) k)))) 1 (cuI (ff1 ((toV Z) k)))) 2 (cuI (tt1 ((toV Z) k))))) (wLr Z (toM Z) lr (toK Z) (toV Z)) (by simp only [List.append_assoc, List.append_nil, List.nil_append]) rfl (rmK_le (by omega) (by decide)) (Nat.le_of_ble_eq_true rfl) (Nat.zero_add _).symm (Nat.zero_add _).symm ?_
          rintro _ _ ⟨rfl, rfl⟩
          refine J_st (.int (ofN (toN Z) dy p hh1 ff1 tt1 2 (twoQ Z k)) :: []) rfl ?_
          refine J_ws ((((arrI Z n2 3 (upd (upd (upd (fun _ => 0) 0 (nI (hh1 ((toV Z) k)))) 1 (cuI (ff1 ((toV Z) k)))) 2 (cuI (tt1 ((toV Z) k)))) ++ wSim Z s (toN Z) (toM Z) hA lA oA tA eA (fun j => some (rw j)) (fun j => some (lr j)) fo ft fe dy cc1) ++ wRw Z (toN Z) rw p hh1 ff1 tt1) ++ wPl Z L) ++ wLr Z (toM Z) lr (toK Z) (toV Z)) (by simp only [List.append_assoc, List.append_nil, List.nil_append]) ?_
          refine J_bipush 6 C iX9_pass_113 rfl ?_
          refine J_bipush 18 C iX9_pass_115 rfl ?_
          refine J_cSb (As := [.int (ofN (toN Z) dy p hh1 ff1 tt1 2 (twoQ Z k)), .int 6, .int 18]) (st := []) (rc2 := 0 + 1 * (1 * (4 - (k + 1)))) (rs2 := 0 + 1 * (3 * (4 - (k + 1)))) (w0 := []) C iX9_pass_117 lm_X9_67 yc_X9_held ys_X9_held (c_X9_held (v := ofN (toN Z) dy p hh1 ff1 tt1 2 (twoQ Z k)) (lo := 6) (hi := 18)) [] ((((arrI Z n2 3 (upd (upd (upd (fun _ => 0) 0 (nI (hh1 ((toV Z) k)))) 1 (cuI (ff1 ((toV Z) k)))) 2 (cuI (tt1 ((toV Z) k)))) ++ wSim Z s (toN Z) (toM Z) hA lA oA tA eA (fun j => some (rw j)) (fun j => some (lr j)) fo ft fe dy cc1) ++ wRw Z (toN Z) rw p hh1 ff1 tt1) ++ wPl Z L) ++ wLr Z (toM Z) lr (toK Z) (toV Z)) (by simp only [List.append_assoc, List.append_nil, List.nil_append]) rfl (rmK_le (by omega) (by decide)) (Nat.le_of_ble_eq_true rfl) (Nat.zero_add _).symm (Nat.zero_add _).symm ?_
          rintro _ _ ⟨rfl, rfl⟩
          refine J_st (.int (hdI (ofN (toN Z) dy p hh1 ff1 tt1 2 (twoQ Z k)) 6 18) :: []) rfl ?_
          refine J_ws ((((arrI Z n2 3 (upd (upd (upd (fun _ => 0) 0 (nI (hh1 ((toV Z) k)))) 1 (cuI (ff1 ((toV Z) k)))) 2 (cuI (tt1 ((toV Z) k)))) ++ wSim Z s (toN Z) (toM Z) hA lA oA tA eA (fun j => some (rw j)) (fun j => some (lr j)) fo ft fe dy cc1) ++ wRw Z (toN Z) rw p hh1 ff1 tt1) ++ wPl Z L) ++ wLr Z (toM Z) lr (toK Z) (toV Z)) (by simp only [List.append_assoc, List.append_nil, List.nil_append]) ?_
          rw [(hd_cl _).1]
          refine J_istore [(5, .int (nI (clN (ofN (toN Z) dy p hh1 ff1 tt1 2 (twoQ Z k))))), (4, .int (nI (clN (ofN (toN Z) dy p hh1 ff1 tt1 2 (oneQ Z k))))), (3, .ref n2), (2, .ref (rw ((toV Z) k))), (1, .int (nI k)), (0, .ref s)] C iX9_pass_120 (by decide) rfl ?_
          obtain ⟨-, hb1, hb2⟩ := hd_cl (ofN (toN Z) dy p hh1 ff1 tt1 2 (oneQ Z k))
          obtain ⟨-, hb3, hb4⟩ := hd_cl (ofN (toN Z) dy p hh1 ff1 tt1 2 (twoQ Z k))
          refine J_iload C iX9_pass_122 rfl ?_
          refine J_iload C iX9_pass_124 rfl ?_
          by_cases hbe : clN (ofN (toN Z) dy p hh1 ff1 tt1 2 (oneQ Z k)) ≤ clN (ofN (toN Z) dy p hh1 ff1 tt1 2 (twoQ Z k))
          · refine J_icmpgt 139 C iX9_pass_126 rfl (fun h126 => absurd h126 (nI_nlt (a := (clN (ofN (toN Z) dy p hh1 ff1 tt1 2 (twoQ Z k)))) (b := (clN (ofN (toN Z) dy p hh1 ff1 tt1 2 (oneQ Z k)))) (by omega) (by omega))) (fun h126 => ?_)
            refine J_aload_n C iX9_pass_129 rfl rfl ?_
            refine J_iconst 2 C iX9_pass_130 rfl ?_
            refine J_iload C iX9_pass_131 rfl ?_
            refine J_iast (n := 4) (f := rowF p hh1 ff1 tt1 ((toV Z) k)) ((((arrI Z n2 3 (upd (upd (upd (fun _ => 0) 0 (nI (hh1 ((toV Z) k)))) 1 (cuI (ff1 ((toV Z) k)))) 2 (cuI (tt1 ((toV Z) k)))) ++ wSim Z s (toN Z) (toM Z) hA lA oA tA eA (fun j => some (rw j)) (fun j => some (lr j)) fo ft fe dy cc1) ++ wRw Z (toN Z) rw p hh1 (upN ff1 ((toV Z) k) (clN (ofN (toN Z) dy p hh1 ff1 tt1 2 (oneQ Z k)))) tt1) ++ wPl Z L) ++ wLr Z (toM Z) lr (toK Z) (toV Z)) (((arrI Z n2 3 (upd (upd (upd (fun _ => 0) 0 (nI (hh1 ((toV Z) k)))) 1 (cuI (ff1 ((toV Z) k)))) 2 (cuI (tt1 ((toV Z) k)))) ++ wSim Z s (toN Z) (toM Z) hA lA oA tA eA (fun j => some (rw j)) (fun j => some (lr j)) fo ft fe dy cc1)).length + ((toV Z) k)) C iX9_pass_133 (mid_at (A := (arrI Z n2 3 (upd (upd (upd (fun _ => 0) 0 (nI (hh1 ((toV Z) k)))) 1 (cuI (ff1 ((toV Z) k)))) 2 (cuI (tt1 ((toV Z) k)))) ++ wSim Z s (toN Z) (toM Z) hA lA oA tA eA (fun j => some (rw j)) (fun j => some (lr j)) fo ft fe dy cc1)) (M := wRw Z (toN Z) rw p hh1 ff1 tt1) (B := (wPl Z L ++ wLr Z (toM Z) lr (toK Z) (toV Z))) (by simp only [List.append_assoc, List.append_nil, List.nil_append]) (wRw_at (by omega))) (vp_in_nI (n := 2) (by decide) (by decide)) ?_ ?_
            · rw [show Int32.toNatClampNeg 2 = 2 from rfl]; rw [show nI (clN (ofN (toN Z) dy p hh1 ff1 tt1 2 (oneQ Z k))) = cuI (clN (ofN (toN Z) dy p hh1 ff1 tt1 2 (oneQ Z k))) from (cu_nI (by omega)).symm]; exact (mid_set (A := (arrI Z n2 3 (upd (upd (upd (fun _ => 0) 0 (nI (hh1 ((toV Z) k)))) 1 (cuI (ff1 ((toV Z) k)))) 2 (cuI (tt1 ((toV Z) k)))) ++ wSim Z s (toN Z) (toM Z) hA lA oA tA eA (fun j => some (rw j)) (fun j => some (lr j)) fo ft fe dy cc1)) (M := wRw Z (toN Z) rw p hh1 ff1 tt1) (B := (wPl Z L ++ wLr Z (toM Z) lr (toK Z) (toV Z))) (by simp only [List.append_assoc, List.append_nil, List.nil_append]) (by rw [wRw_len]; omega) (wRw_set (by omega) row_f (fun j hj hne => by simp [upN, hne]))).trans (by simp only [List.append_assoc, List.append_nil, List.nil_append])
            refine J_aload_n C iX9_pass_134 rfl rfl ?_
            refine J_iconst 3 C iX9_pass_135 rfl ?_
            refine J_iload C iX9_pass_136 rfl ?_
            refine J_iast (n := 4) (f := rowF p hh1 (upN ff1 ((toV Z) k) (clN (ofN (toN Z) dy p hh1 ff1 tt1 2 (oneQ Z k)))) tt1 ((toV Z) k)) ((((arrI Z n2 3 (upd (upd (upd (fun _ => 0) 0 (nI (hh1 ((toV Z) k)))) 1 (cuI (ff1 ((toV Z) k)))) 2 (cuI (tt1 ((toV Z) k)))) ++ wSim Z s (toN Z) (toM Z) hA lA oA tA eA (fun j => some (rw j)) (fun j => some (lr j)) fo ft fe dy cc1) ++ wRw Z (toN Z) rw p hh1 (upN ff1 ((toV Z) k) (clN (ofN (toN Z) dy p hh1 ff1 tt1 2 (oneQ Z k)))) (upN tt1 ((toV Z) k) (clN (ofN (toN Z) dy p hh1 ff1 tt1 2 (twoQ Z k))))) ++ wPl Z L) ++ wLr Z (toM Z) lr (toK Z) (toV Z)) (((arrI Z n2 3 (upd (upd (upd (fun _ => 0) 0 (nI (hh1 ((toV Z) k)))) 1 (cuI (ff1 ((toV Z) k)))) 2 (cuI (tt1 ((toV Z) k)))) ++ wSim Z s (toN Z) (toM Z) hA lA oA tA eA (fun j => some (rw j)) (fun j => some (lr j)) fo ft fe dy cc1)).length + ((toV Z) k)) C iX9_pass_138 (mid_at (A := (arrI Z n2 3 (upd (upd (upd (fun _ => 0) 0 (nI (hh1 ((toV Z) k)))) 1 (cuI (ff1 ((toV Z) k)))) 2 (cuI (tt1 ((toV Z) k)))) ++ wSim Z s (toN Z) (toM Z) hA lA oA tA eA (fun j => some (rw j)) (fun j => some (lr j)) fo ft fe dy cc1)) (M := wRw Z (toN Z) rw p hh1 (upN ff1 ((toV Z) k) (clN (ofN (toN Z) dy p hh1 ff1 tt1 2 (oneQ Z k)))) tt1) (B := (wPl Z L ++ wLr Z (toM Z) lr (toK Z) (toV Z))) (by simp only [List.append_assoc, List.append_nil, List.nil_append]) (wRw_at (by omega))) (vp_in_nI (n := 3) (by decide) (by decide)) ?_ ?_
            · rw [show Int32.toNatClampNeg 3 = 3 from rfl]; rw [show nI (clN (ofN (toN Z) dy p hh1 ff1 tt1 2 (twoQ Z k))) = cuI (clN (ofN (toN Z) dy p hh1 ff1 tt1 2 (twoQ Z k))) from (cu_nI (by omega)).symm]; exact (mid_set (A := (arrI Z n2 3 (upd (upd (upd (fun _ => 0) 0 (nI (hh1 ((toV Z) k)))) 1 (cuI (ff1 ((toV Z) k)))) 2 (cuI (tt1 ((toV Z) k)))) ++ wSim Z s (toN Z) (toM Z) hA lA oA tA eA (fun j => some (rw j)) (fun j => some (lr j)) fo ft fe dy cc1)) (M := wRw Z (toN Z) rw p hh1 (upN ff1 ((toV Z) k) (clN (ofN (toN Z) dy p hh1 ff1 tt1 2 (oneQ Z k)))) tt1) (B := (wPl Z L ++ wLr Z (toM Z) lr (toK Z) (toV Z))) (by simp only [List.append_assoc, List.append_nil, List.nil_append]) (by rw [wRw_len]; omega) (wRw_set (by omega) row_t (fun j hj hne => by simp [upN, hne]))).trans (by simp only [List.append_assoc, List.append_nil, List.nil_append])
            refine J_goto 195 C iX9_pass_139 rfl ?_
            have h3 : pd3 Z p dy hh1 ff1 tt1 k = (hh1, upN ff1 ((toV Z) k) (clN (ofN (toN Z) dy p hh1 ff1 tt1 2 (oneQ Z k))), upN tt1 ((toV Z) k) (clN (ofN (toN Z) dy p hh1 ff1 tt1 2 (twoQ Z k)))) := by rw [pd3, if_pos hk0, if_pos hbe]
            have ok3 : SnOk (toN Z) p hh1 (upN ff1 ((toV Z) k) (clN (ofN (toN Z) dy p hh1 ff1 tt1 2 (oneQ Z k)))) (upN tt1 ((toV Z) k) (clN (ofN (toN Z) dy p hh1 ff1 tt1 2 (twoQ Z k)))) := (hI2.upC (Or.inr ⟨hb1, hbe, hb4⟩))
            generalize upN ff1 ((toV Z) k) (clN (ofN (toN Z) dy p hh1 ff1 tt1 2 (oneQ Z k))) = f3_ at h3 ok3 ⊢
            generalize upN tt1 ((toV Z) k) (clN (ofN (toN Z) dy p hh1 ff1 tt1 2 (twoQ Z k))) = t3_ at h3 ok3 ⊢
            have hv3 := (ok3.2 (toV Z k) hvl)
            refine J_aload_n C iX9_pass_195 rfl rfl ?_
            refine J_dup C iX9_pass_196 rfl ?_
            refine J_get (.int cc1) 1 C iX9_pass_197 gf_X9_39 rfl rfl ?_
            refine J_aload_n C iX9_pass_200 rfl rfl ?_
            refine J_iconst 1 C iX9_pass_201 rfl ?_
            refine J_iald (n := 4) (f := rowF p hh1 f3_ t3_ ((toV Z) k)) (((arrI Z n2 3 (upd (upd (upd (fun _ => 0) 0 (nI (hh1 ((toV Z) k)))) 1 (cuI (ff1 ((toV Z) k)))) 2 (cuI (tt1 ((toV Z) k)))) ++ wSim Z s (toN Z) (toM Z) hA lA oA tA eA (fun j => some (rw j)) (fun j => some (lr j)) fo ft fe dy cc1)).length + ((toV Z) k)) C iX9_pass_202 (mid_at (A := (arrI Z n2 3 (upd (upd (upd (fun _ => 0) 0 (nI (hh1 ((toV Z) k)))) 1 (cuI (ff1 ((toV Z) k)))) 2 (cuI (tt1 ((toV Z) k)))) ++ wSim Z s (toN Z) (toM Z) hA lA oA tA eA (fun j => some (rw j)) (fun j => some (lr j)) fo ft fe dy cc1)) (M := wRw Z (toN Z) rw p hh1 f3_ t3_) (B := (wPl Z L ++ wLr Z (toM Z) lr (toK Z) (toV Z))) (by simp only [List.append_assoc, List.append_nil, List.nil_append]) (wRw_at (by omega))) (vp_in_nI (n := 1) (by decide) (by decide)) ?_
            refine J_st (.int (nI (hh1 ((toV Z) k))) :: .int cc1 :: .ref s :: []) rfl ?_
            refine J_aload_n C iX9_pass_203 rfl rfl ?_
            refine J_iconst 0 C iX9_pass_204 rfl ?_
            refine J_iald 0 C iX9_pass_205 rfl (vp_in_nI (n := 0) (by omega) (by omega)) ?_
            rw [show Int32.toNatClampNeg 0 = 0 from rfl]
            by_cases he1 : hh1 (toV Z k) = hh1 (toV Z k)
            · refine J_icmpne 231 C iX9_pass_206 rfl (fun h206 => absurd (show nI (hh1 (toV Z k)) = nI (hh1 (toV Z k)) from congrArg nI he1) h206) (fun h206 => ?_)
              refine J_aload_n C iX9_pass_209 rfl rfl ?_
              refine J_iconst 2 C iX9_pass_210 rfl ?_
              refine J_iald (n := 4) (f := rowF p hh1 f3_ t3_ ((toV Z) k)) (((arrI Z n2 3 (upd (upd (upd (fun _ => 0) 0 (nI (hh1 ((toV Z) k)))) 1 (cuI (ff1 ((toV Z) k)))) 2 (cuI (tt1 ((toV Z) k)))) ++ wSim Z s (toN Z) (toM Z) hA lA oA tA eA (fun j => some (rw j)) (fun j => some (lr j)) fo ft fe dy cc1)).length + ((toV Z) k)) C iX9_pass_211 (mid_at (A := (arrI Z n2 3 (upd (upd (upd (fun _ => 0) 0 (nI (hh1 ((toV Z) k)))) 1 (cuI (ff1 ((toV Z) k)))) 2 (cuI (tt1 ((toV Z) k)))) ++ wSim Z s (toN Z) (toM Z) hA lA oA tA eA (fun j => some (rw j)) (fun j => some (lr j)) fo ft fe dy cc1)) (M := wRw Z (toN Z) rw p hh1 f3_ t3_) (B := (wPl Z L ++ wLr Z (toM Z) lr (toK Z) (toV Z))) (by simp only [List.append_assoc, List.append_nil, List.nil_append]) (wRw_at (by omega))) (vp_in_nI (n := 2) (by decide) (by decide)) ?_
              refine J_st (.int (cuI (f3_ ((toV Z) k))) :: .int cc1 :: .ref s :: []) rfl ?_
              refine J_aload_n C iX9_pass_212 rfl rfl ?_
              refine J_iconst 1 C iX9_pass_213 rfl ?_
              refine J_iald 0 C iX9_pass_214 rfl (vp_in_nI (n := 1) (by omega) (by omega)) ?_
              rw [show Int32.toNatClampNeg 1 = 1 from rfl]
              by_cases he2 : f3_ (toV Z k) = ff1 (toV Z k)
              · refine J_icmpne 231 C iX9_pass_215 rfl (fun h215 => absurd (show cuI (f3_ (toV Z k)) = cuI (ff1 (toV Z k)) from congrArg cuI he2) h215) (fun h215 => ?_)
                refine J_aload_n C iX9_pass_218 rfl rfl ?_
                refine J_iconst 3 C iX9_pass_219 rfl ?_
                refine J_iald (n := 4) (f := rowF p hh1 f3_ t3_ ((toV Z) k)) (((arrI Z n2 3 (upd (upd (upd (fun _ => 0) 0 (nI (hh1 ((toV Z) k)))) 1 (cuI (ff1 ((toV Z) k)))) 2 (cuI (tt1 ((toV Z) k)))) ++ wSim Z s (toN Z) (toM Z) hA lA oA tA eA (fun j => some (rw j)) (fun j => some (lr j)) fo ft fe dy cc1)).length + ((toV Z) k)) C iX9_pass_220 (mid_at (A := (arrI Z n2 3 (upd (upd (upd (fun _ => 0) 0 (nI (hh1 ((toV Z) k)))) 1 (cuI (ff1 ((toV Z) k)))) 2 (cuI (tt1 ((toV Z) k)))) ++ wSim Z s (toN Z) (toM Z) hA lA oA tA eA (fun j => some (rw j)) (fun j => some (lr j)) fo ft fe dy cc1)) (M := wRw Z (toN Z) rw p hh1 f3_ t3_) (B := (wPl Z L ++ wLr Z (toM Z) lr (toK Z) (toV Z))) (by simp only [List.append_assoc, List.append_nil, List.nil_append]) (wRw_at (by omega))) (vp_in_nI (n := 3) (by decide) (by decide)) ?_
                refine J_st (.int (cuI (t3_ ((toV Z) k))) :: .int cc1 :: .ref s :: []) rfl ?_
                refine J_aload_n C iX9_pass_221 rfl rfl ?_
                refine J_iconst 2 C iX9_pass_222 rfl ?_
                refine J_iald 0 C iX9_pass_223 rfl (vp_in_nI (n := 2) (by omega) (by omega)) ?_
                rw [show Int32.toNatClampNeg 2 = 2 from rfl]
                by_cases he3 : t3_ (toV Z k) = tt1 (toV Z k)
                · refine J_icmpne 231 C iX9_pass_224 rfl (fun h224 => absurd (show cuI (t3_ (toV Z k)) = cuI (tt1 (toV Z k)) from congrArg cuI he3) h224) (fun h224 => ?_)
                  refine J_iconst 0 C iX9_pass_227 rfl ?_
                  refine J_goto 232 C iX9_pass_228 rfl ?_
                  refine J_iadd C iX9_pass_232 ?_
                  refine J_put ((((arrI Z n2 3 (upd (upd (upd (fun _ => 0) 0 (nI (hh1 ((toV Z) k)))) 1 (cuI (ff1 ((toV Z) k)))) 2 (cuI (tt1 ((toV Z) k)))) ++ wSim Z s (toN Z) (toM Z) hA lA oA tA eA (fun j => some (rw j)) (fun j => some (lr j)) fo ft fe dy (cc1 + 0)) ++ wRw Z (toN Z) rw p hh1 f3_ t3_) ++ wPl Z L) ++ wLr Z (toM Z) lr (toK Z) (toV Z)) 1 C iX9_pass_233 pf_X9_39 rfl rfl rfl (Nat.le_of_ble_eq_true rfl) rfl ?_
                  refine J_drop [] (arrI Z n2 3 (upd (upd (upd (fun _ => 0) 0 (nI (hh1 ((toV Z) k)))) 1 (cuI (ff1 ((toV Z) k)))) 2 (cuI (tt1 ((toV Z) k))))) (((wSim Z s (toN Z) (toM Z) hA lA oA tA eA (fun j => some (rw j)) (fun j => some (lr j)) fo ft fe dy (cc1 + 0) ++ wRw Z (toN Z) rw p hh1 f3_ t3_) ++ wPl Z L) ++ wLr Z (toM Z) lr (toK Z) (toV Z)) (by simp only [List.append_assoc, List.append_nil, List.nil_append]) ?_
                  refine J_ws (((wSim Z s (toN Z) (toM Z) hA lA oA tA eA (fun j => some (rw j)) (fun j => some (lr j)) fo ft fe dy (cc1 + 0) ++ wRw Z (toN Z) rw p hh1 f3_ t3_) ++ wPl Z L) ++ wLr Z (toM Z) lr (toK Z) (toV Z)) (by simp only [List.append_assoc, List.append_nil, List.nil_append]) ?_
                  refine J_iinc ((nI k) + 1) [(1, .int ((nI k) + 1)), (5, .int (nI (clN (ofN (toN Z) dy p hh1 ff1 tt1 2 (twoQ Z k))))), (4, .int (nI (clN (ofN (toN Z) dy p hh1 ff1 tt1 2 (oneQ Z k))))), (3, .ref n2), (2, .ref (rw ((toV Z) k))), (0, .ref s)] C iX9_pass_236 rfl rfl (by decide) rfl ?_
                  rw [show (nI k) + 1 = nI (k + 1) from nI_add _ _]
                  refine J_goto 2 C iX9_pass_239 rfl ?_
                  refine J_lvm [(1, .int (nI (k + 1))), (0, .ref s)] rfl ?_
                  refine J_room (rc2 := 1 * (4 - (k + 1))) (rs2 := 3 * (4 - (k + 1))) (by omega) (by omega) ?_
                  exact ih (hh1, f3_, t3_, (cc1 + 0)) ⟨by rw [pdN, hI1]; exact pdS_yes hgo h3 (if_pos ⟨he1, he2, he3⟩), ok3⟩
                · refine J_icmpne 231 C iX9_pass_224 rfl (fun h224 => ?_) (fun h224 => absurd h224 (fun e => he3 ((cu_inj (by omega) (by omega)).mp e)))
                  refine J_iconst 1 C iX9_pass_231 rfl ?_
                  refine J_iadd C iX9_pass_232 ?_
                  refine J_put ((((arrI Z n2 3 (upd (upd (upd (fun _ => 0) 0 (nI (hh1 ((toV Z) k)))) 1 (cuI (ff1 ((toV Z) k)))) 2 (cuI (tt1 ((toV Z) k)))) ++ wSim Z s (toN Z) (toM Z) hA lA oA tA eA (fun j => some (rw j)) (fun j => some (lr j)) fo ft fe dy (cc1 + 1)) ++ wRw Z (toN Z) rw p hh1 f3_ t3_) ++ wPl Z L) ++ wLr Z (toM Z) lr (toK Z) (toV Z)) 1 C iX9_pass_233 pf_X9_39 rfl rfl rfl (Nat.le_of_ble_eq_true rfl) rfl ?_
                  refine J_drop [] (arrI Z n2 3 (upd (upd (upd (fun _ => 0) 0 (nI (hh1 ((toV Z) k)))) 1 (cuI (ff1 ((toV Z) k)))) 2 (cuI (tt1 ((toV Z) k))))) (((wSim Z s (toN Z) (toM Z) hA lA oA tA eA (fun j => some (rw j)) (fun j => some (lr j)) fo ft fe dy (cc1 + 1) ++ wRw Z (toN Z) rw p hh1 f3_ t3_) ++ wPl Z L) ++ wLr Z (toM Z) lr (toK Z) (toV Z)) (by simp only [List.append_assoc, List.append_nil, List.nil_append]) ?_
                  refine J_ws (((wSim Z s (toN Z) (toM Z) hA lA oA tA eA (fun j => some (rw j)) (fun j => some (lr j)) fo ft fe dy (cc1 + 1) ++ wRw Z (toN Z) rw p hh1 f3_ t3_) ++ wPl Z L) ++ wLr Z (toM Z) lr (toK Z) (toV Z)) (by simp only [List.append_assoc, List.append_nil, List.nil_append]) ?_
                  refine J_iinc ((nI k) + 1) [(1, .int ((nI k) + 1)), (5, .int (nI (clN (ofN (toN Z) dy p hh1 ff1 tt1 2 (twoQ Z k))))), (4, .int (nI (clN (ofN (toN Z) dy p hh1 ff1 tt1 2 (oneQ Z k))))), (3, .ref n2), (2, .ref (rw ((toV Z) k))), (0, .ref s)] C iX9_pass_236 rfl rfl (by decide) rfl ?_
                  rw [show (nI k) + 1 = nI (k + 1) from nI_add _ _]
                  refine J_goto 2 C iX9_pass_239 rfl ?_
                  refine J_lvm [(1, .int (nI (k + 1))), (0, .ref s)] rfl ?_
                  refine J_room (rc2 := 1 * (4 - (k + 1))) (rs2 := 3 * (4 - (k + 1))) (by omega) (by omega) ?_
                  exact ih (hh1, f3_, t3_, (cc1 + 1)) ⟨by rw [pdN, hI1]; exact pdS_yes hgo h3 (if_neg (fun q => he3 q.2.2)), ok3⟩
              · refine J_icmpne 231 C iX9_pass_215 rfl (fun h215 => ?_) (fun h215 => absurd h215 (fun e => he2 ((cu_inj (by omega) (by omega)).mp e)))
                refine J_iconst 1 C iX9_pass_231 rfl ?_
                refine J_iadd C iX9_pass_232 ?_
                refine J_put ((((arrI Z n2 3 (upd (upd (upd (fun _ => 0) 0 (nI (hh1 ((toV Z) k)))) 1 (cuI (ff1 ((toV Z) k)))) 2 (cuI (tt1 ((toV Z) k)))) ++ wSim Z s (toN Z) (toM Z) hA lA oA tA eA (fun j => some (rw j)) (fun j => some (lr j)) fo ft fe dy (cc1 + 1)) ++ wRw Z (toN Z) rw p hh1 f3_ t3_) ++ wPl Z L) ++ wLr Z (toM Z) lr (toK Z) (toV Z)) 1 C iX9_pass_233 pf_X9_39 rfl rfl rfl (Nat.le_of_ble_eq_true rfl) rfl ?_
                refine J_drop [] (arrI Z n2 3 (upd (upd (upd (fun _ => 0) 0 (nI (hh1 ((toV Z) k)))) 1 (cuI (ff1 ((toV Z) k)))) 2 (cuI (tt1 ((toV Z) k))))) (((wSim Z s (toN Z) (toM Z) hA lA oA tA eA (fun j => some (rw j)) (fun j => some (lr j)) fo ft fe dy (cc1 + 1) ++ wRw Z (toN Z) rw p hh1 f3_ t3_) ++ wPl Z L) ++ wLr Z (toM Z) lr (toK Z) (toV Z)) (by simp only [List.append_assoc, List.append_nil, List.nil_append]) ?_
                refine J_ws (((wSim Z s (toN Z) (toM Z) hA lA oA tA eA (fun j => some (rw j)) (fun j => some (lr j)) fo ft fe dy (cc1 + 1) ++ wRw Z (toN Z) rw p hh1 f3_ t3_) ++ wPl Z L) ++ wLr Z (toM Z) lr (toK Z) (toV Z)) (by simp only [List.append_assoc, List.append_nil, List.nil_append]) ?_
                refine J_iinc ((nI k) + 1) [(1, .int ((nI k) + 1)), (5, .int (nI (clN (ofN (toN Z) dy p hh1 ff1 tt1 2 (twoQ Z k))))), (4, .int (nI (clN (ofN (toN Z) dy p hh1 ff1 tt1 2 (oneQ Z k))))), (3, .ref n2), (2, .ref (rw ((toV Z) k))), (0, .ref s)] C iX9_pass_236 rfl rfl (by decide) rfl ?_
                rw [show (nI k) + 1 = nI (k + 1) from nI_add _ _]
                refine J_goto 2 C iX9_pass_239 rfl ?_
                refine J_lvm [(1, .int (nI (k + 1))), (0, .ref s)] rfl ?_
                refine J_room (rc2 := 1 * (4 - (k + 1))) (rs2 := 3 * (4 - (k + 1))) (by omega) (by omega) ?_
                exact ih (hh1, f3_, t3_, (cc1 + 1)) ⟨by rw [pdN, hI1]; exact pdS_yes hgo h3 (if_neg (fun q => he2 q.2.1)), ok3⟩
            · refine J_icmpne 231 C iX9_pass_206 rfl (fun h206 => ?_) (fun h206 => absurd h206 (fun e => he1 ((nI_eq (by omega) (by omega)).mp e)))
              refine J_iconst 1 C iX9_pass_231 rfl ?_
              refine J_iadd C iX9_pass_232 ?_
              refine J_put ((((arrI Z n2 3 (upd (upd (upd (fun _ => 0) 0 (nI (hh1 ((toV Z) k)))) 1 (cuI (ff1 ((toV Z) k)))) 2 (cuI (tt1 ((toV Z) k)))) ++ wSim Z s (toN Z) (toM Z) hA lA oA tA eA (fun j => some (rw j)) (fun j => some (lr j)) fo ft fe dy (cc1 + 1)) ++ wRw Z (toN Z) rw p hh1 f3_ t3_) ++ wPl Z L) ++ wLr Z (toM Z) lr (toK Z) (toV Z)) 1 C iX9_pass_233 pf_X9_39 rfl rfl rfl (Nat.le_of_ble_eq_true rfl) rfl ?_
              refine J_drop [] (arrI Z n2 3 (upd (upd (upd (fun _ => 0) 0 (nI (hh1 ((toV Z) k)))) 1 (cuI (ff1 ((toV Z) k)))) 2 (cuI (tt1 ((toV Z) k))))) (((wSim Z s (toN Z) (toM Z) hA lA oA tA eA (fun j => some (rw j)) (fun j => some (lr j)) fo ft fe dy (cc1 + 1) ++ wRw Z (toN Z) rw p hh1 f3_ t3_) ++ wPl Z L) ++ wLr Z (toM Z) lr (toK Z) (toV Z)) (by simp only [List.append_assoc, List.append_nil, List.nil_append]) ?_
              refine J_ws (((wSim Z s (toN Z) (toM Z) hA lA oA tA eA (fun j => some (rw j)) (fun j => some (lr j)) fo ft fe dy (cc1 + 1) ++ wRw Z (toN Z) rw p hh1 f3_ t3_) ++ wPl Z L) ++ wLr Z (toM Z) lr (toK Z) (toV Z)) (by simp only [List.append_assoc, List.append_nil, List.nil_append]) ?_
              refine J_iinc ((nI k) + 1) [(1, .int ((nI k) + 1)), (5, .int (nI (clN (ofN (toN Z) dy p hh1 ff1 tt1 2 (twoQ Z k))))), (4, .int (nI (clN (ofN (toN Z) dy p hh1 ff1 tt1 2 (oneQ Z k))))), (3, .ref n2), (2, .ref (rw ((toV Z) k))), (0, .ref s)] C iX9_pass_236 rfl rfl (by decide) rfl ?_
              rw [show (nI k) + 1 = nI (k + 1) from nI_add _ _]
              refine J_goto 2 C iX9_pass_239 rfl ?_
              refine J_lvm [(1, .int (nI (k + 1))), (0, .ref s)] rfl ?_
              refine J_room (rc2 := 1 * (4 - (k + 1))) (rs2 := 3 * (4 - (k + 1))) (by omega) (by omega) ?_
              exact ih (hh1, f3_, t3_, (cc1 + 1)) ⟨by rw [pdN, hI1]; exact pdS_yes hgo h3 (if_neg (fun q => he1 q.1)), ok3⟩
          · refine J_icmpgt 139 C iX9_pass_126 rfl (fun h126 => ?_) (fun h126 => absurd (nI_lt (a := (clN (ofN (toN Z) dy p hh1 ff1 tt1 2 (twoQ Z k)))) (b := (clN (ofN (toN Z) dy p hh1 ff1 tt1 2 (oneQ Z k)))) (by omega) (by omega)) h126)
            refine J_goto 195 C iX9_pass_139 rfl ?_
            have h3 : pd3 Z p dy hh1 ff1 tt1 k = (hh1, ff1, tt1) := by rw [pd3, if_pos hk0, if_neg hbe]
            have ok3 : SnOk (toN Z) p hh1 ff1 tt1 := hI2
            have hv3 := (ok3.2 (toV Z k) hvl)
            refine J_aload_n C iX9_pass_195 rfl rfl ?_
            refine J_dup C iX9_pass_196 rfl ?_
            refine J_get (.int cc1) 1 C iX9_pass_197 gf_X9_39 rfl rfl ?_
            refine J_aload_n C iX9_pass_200 rfl rfl ?_
            refine J_iconst 1 C iX9_pass_201 rfl ?_
            refine J_iald (n := 4) (f := rowF p hh1 ff1 tt1 ((toV Z) k)) (((arrI Z n2 3 (upd (upd (upd (fun _ => 0) 0 (nI (hh1 ((toV Z) k)))) 1 (cuI (ff1 ((toV Z) k)))) 2 (cuI (tt1 ((toV Z) k)))) ++ wSim Z s (toN Z) (toM Z) hA lA oA tA eA (fun j => some (rw j)) (fun j => some (lr j)) fo ft fe dy cc1)).length + ((toV Z) k)) C iX9_pass_202 (mid_at (A := (arrI Z n2 3 (upd (upd (upd (fun _ => 0) 0 (nI (hh1 ((toV Z) k)))) 1 (cuI (ff1 ((toV Z) k)))) 2 (cuI (tt1 ((toV Z) k)))) ++ wSim Z s (toN Z) (toM Z) hA lA oA tA eA (fun j => some (rw j)) (fun j => some (lr j)) fo ft fe dy cc1)) (M := wRw Z (toN Z) rw p hh1 ff1 tt1) (B := (wPl Z L ++ wLr Z (toM Z) lr (toK Z) (toV Z))) (by simp only [List.append_assoc, List.append_nil, List.nil_append]) (wRw_at (by omega))) (vp_in_nI (n := 1) (by decide) (by decide)) ?_
            refine J_st (.int (nI (hh1 ((toV Z) k))) :: .int cc1 :: .ref s :: []) rfl ?_
            refine J_aload_n C iX9_pass_203 rfl rfl ?_
            refine J_iconst 0 C iX9_pass_204 rfl ?_
            refine J_iald 0 C iX9_pass_205 rfl (vp_in_nI (n := 0) (by omega) (by omega)) ?_
            rw [show Int32.toNatClampNeg 0 = 0 from rfl]
            by_cases he1 : hh1 (toV Z k) = hh1 (toV Z k)
            · refine J_icmpne 231 C iX9_pass_206 rfl (fun h206 => absurd (show nI (hh1 (toV Z k)) = nI (hh1 (toV Z k)) from congrArg nI he1) h206) (fun h206 => ?_)
              refine J_aload_n C iX9_pass_209 rfl rfl ?_
              refine J_iconst 2 C iX9_pass_210 rfl ?_
              refine J_iald (n := 4) (f := rowF p hh1 ff1 tt1 ((toV Z) k)) (((arrI Z n2 3 (upd (upd (upd (fun _ => 0) 0 (nI (hh1 ((toV Z) k)))) 1 (cuI (ff1 ((toV Z) k)))) 2 (cuI (tt1 ((toV Z) k)))) ++ wSim Z s (toN Z) (toM Z) hA lA oA tA eA (fun j => some (rw j)) (fun j => some (lr j)) fo ft fe dy cc1)).length + ((toV Z) k)) C iX9_pass_211 (mid_at (A := (arrI Z n2 3 (upd (upd (upd (fun _ => 0) 0 (nI (hh1 ((toV Z) k)))) 1 (cuI (ff1 ((toV Z) k)))) 2 (cuI (tt1 ((toV Z) k)))) ++ wSim Z s (toN Z) (toM Z) hA lA oA tA eA (fun j => some (rw j)) (fun j => some (lr j)) fo ft fe dy cc1)) (M := wRw Z (toN Z) rw p hh1 ff1 tt1) (B := (wPl Z L ++ wLr Z (toM Z) lr (toK Z) (toV Z))) (by simp only [List.append_assoc, List.append_nil, List.nil_append]) (wRw_at (by omega))) (vp_in_nI (n := 2) (by decide) (by decide)) ?_
              refine J_st (.int (cuI (ff1 ((toV Z) k))) :: .int cc1 :: .ref s :: []) rfl ?_
              refine J_aload_n C iX9_pass_212 rfl rfl ?_
              refine J_iconst 1 C iX9_pass_213 rfl ?_
              refine J_iald 0 C iX9_pass_214 rfl (vp_in_nI (n := 1) (by omega) (by omega)) ?_
              rw [show Int32.toNatClampNeg 1 = 1 from rfl]
              by_cases he2 : ff1 (toV Z k) = ff1 (toV Z k)
              · refine J_icmpne 231 C iX9_pass_215 rfl (fun h215 => absurd (show cuI (ff1 (toV Z k)) = cuI (ff1 (toV Z k)) from congrArg cuI he2) h215) (fun h215 => ?_)
                refine J_aload_n C iX9_pass_218 rfl rfl ?_
                refine J_iconst 3 C iX9_pass_219 rfl ?_
                refine J_iald (n := 4) (f := rowF p hh1 ff1 tt1 ((toV Z) k)) (((arrI Z n2 3 (upd (upd (upd (fun _ => 0) 0 (nI (hh1 ((toV Z) k)))) 1 (cuI (ff1 ((toV Z) k)))) 2 (cuI (tt1 ((toV Z) k)))) ++ wSim Z s (toN Z) (toM Z) hA lA oA tA eA (fun j => some (rw j)) (fun j => some (lr j)) fo ft fe dy cc1)).length + ((toV Z) k)) C iX9_pass_220 (mid_at (A := (arrI Z n2 3 (upd (upd (upd (fun _ => 0) 0 (nI (hh1 ((toV Z) k)))) 1 (cuI (ff1 ((toV Z) k)))) 2 (cuI (tt1 ((toV Z) k)))) ++ wSim Z s (toN Z) (toM Z) hA lA oA tA eA (fun j => some (rw j)) (fun j => some (lr j)) fo ft fe dy cc1)) (M := wRw Z (toN Z) rw p hh1 ff1 tt1) (B := (wPl Z L ++ wLr Z (toM Z) lr (toK Z) (toV Z))) (by simp only [List.append_assoc, List.append_nil, List.nil_append]) (wRw_at (by omega))) (vp_in_nI (n := 3) (by decide) (by decide)) ?_
                refine J_st (.int (cuI (tt1 ((toV Z) k))) :: .int cc1 :: .ref s :: []) rfl ?_
                refine J_aload_n C iX9_pass_221 rfl rfl ?_
                refine J_iconst 2 C iX9_pass_222 rfl ?_
                refine J_iald 0 C iX9_pass_223 rfl (vp_in_nI (n := 2) (by omega) (by omega)) ?_
                rw [show Int32.toNatClampNeg 2 = 2 from rfl]
                by_cases he3 : tt1 (toV Z k) = tt1 (toV Z k)
                · refine J_icmpne 231 C iX9_pass_224 rfl (fun h224 => absurd (show cuI (tt1 (toV Z k)) = cuI (tt1 (toV Z k)) from congrArg cuI he3) h224) (fun h224 => ?_)
                  refine J_iconst 0 C iX9_pass_227 rfl ?_
                  refine J_goto 232 C iX9_pass_228 rfl ?_
                  refine J_iadd C iX9_pass_232 ?_
                  refine J_put ((((arrI Z n2 3 (upd (upd (upd (fun _ => 0) 0 (nI (hh1 ((toV Z) k)))) 1 (cuI (ff1 ((toV Z) k)))) 2 (cuI (tt1 ((toV Z) k)))) ++ wSim Z s (toN Z) (toM Z) hA lA oA tA eA (fun j => some (rw j)) (fun j => some (lr j)) fo ft fe dy (cc1 + 0)) ++ wRw Z (toN Z) rw p hh1 ff1 tt1) ++ wPl Z L) ++ wLr Z (toM Z) lr (toK Z) (toV Z)) 1 C iX9_pass_233 pf_X9_39 rfl rfl rfl (Nat.le_of_ble_eq_true rfl) rfl ?_
                  refine J_drop [] (arrI Z n2 3 (upd (upd (upd (fun _ => 0) 0 (nI (hh1 ((toV Z) k)))) 1 (cuI (ff1 ((toV Z) k)))) 2 (cuI (tt1 ((toV Z) k))))) (((wSim Z s (toN Z) (toM Z) hA lA oA tA eA (fun j => some (rw j)) (fun j => some (lr j)) fo ft fe dy (cc1 + 0) ++ wRw Z (toN Z) rw p hh1 ff1 tt1) ++ wPl Z L) ++ wLr Z (toM Z) lr (toK Z) (toV Z)) (by simp only [List.append_assoc, List.append_nil, List.nil_append]) ?_
                  refine J_ws (((wSim Z s (toN Z) (toM Z) hA lA oA tA eA (fun j => some (rw j)) (fun j => some (lr j)) fo ft fe dy (cc1 + 0) ++ wRw Z (toN Z) rw p hh1 ff1 tt1) ++ wPl Z L) ++ wLr Z (toM Z) lr (toK Z) (toV Z)) (by simp only [List.append_assoc, List.append_nil, List.nil_append]) ?_
                  refine J_iinc ((nI k) + 1) [(1, .int ((nI k) + 1)), (5, .int (nI (clN (ofN (toN Z) dy p hh1 ff1 tt1 2 (twoQ Z k))))), (4, .int (nI (clN (ofN (toN Z) dy p hh1 ff1 tt1 2 (oneQ Z k))))), (3, .ref n2), (2, .ref (rw ((toV Z) k))), (0, .ref s)] C iX9_pass_236 rfl rfl (by decide) rfl ?_
                  rw [show (nI k) + 1 = nI (k + 1) from nI_add _ _]
                  refine J_goto 2 C iX9_pass_239 rfl ?_
                  refine J_lvm [(1, .int (nI (k + 1))), (0, .ref s)] rfl ?_
                  refine J_room (rc2 := 1 * (4 - (k + 1))) (rs2 := 3 * (4 - (k + 1))) (by omega) (by omega) ?_
                  exact ih (hh1, ff1, tt1, (cc1 + 0)) ⟨by rw [pdN, hI1]; exact pdS_yes hgo h3 (if_pos ⟨he1, he2, he3⟩), ok3⟩
                · refine J_icmpne 231 C iX9_pass_224 rfl (fun h224 => ?_) (fun h224 => absurd h224 (fun e => he3 ((cu_inj (by omega) (by omega)).mp e)))
                  refine J_iconst 1 C iX9_pass_231 rfl ?_
                  refine J_iadd C iX9_pass_232 ?_
                  refine J_put ((((arrI Z n2 3 (upd (upd (upd (fun _ => 0) 0 (nI (hh1 ((toV Z) k)))) 1 (cuI (ff1 ((toV Z) k)))) 2 (cuI (tt1 ((toV Z) k)))) ++ wSim Z s (toN Z) (toM Z) hA lA oA tA eA (fun j => some (rw j)) (fun j => some (lr j)) fo ft fe dy (cc1 + 1)) ++ wRw Z (toN Z) rw p hh1 ff1 tt1) ++ wPl Z L) ++ wLr Z (toM Z) lr (toK Z) (toV Z)) 1 C iX9_pass_233 pf_X9_39 rfl rfl rfl (Nat.le_of_ble_eq_true rfl) rfl ?_
                  refine J_drop [] (arrI Z n2 3 (upd (upd (upd (fun _ => 0) 0 (nI (hh1 ((toV Z) k)))) 1 (cuI (ff1 ((toV Z) k)))) 2 (cuI (tt1 ((toV Z) k))))) (((wSim Z s (toN Z) (toM Z) hA lA oA tA eA (fun j => some (rw j)) (fun j => some (lr j)) fo ft fe dy (cc1 + 1) ++ wRw Z (toN Z) rw p hh1 ff1 tt1) ++ wPl Z L) ++ wLr Z (toM Z) lr (toK Z) (toV Z)) (by simp only [List.append_assoc, List.append_nil, List.nil_append]) ?_
                  refine J_ws (((wSim Z s (toN Z) (toM Z) hA lA oA tA eA (fun j => some (rw j)) (fun j => some (lr j)) fo ft fe dy (cc1 + 1) ++ wRw Z (toN Z) rw p hh1 ff1 tt1) ++ wPl Z L) ++ wLr Z (toM Z) lr (toK Z) (toV Z)) (by simp only [List.append_assoc, List.append_nil, List.nil_append]) ?_
                  refine J_iinc ((nI k) + 1) [(1, .int ((nI k) + 1)), (5, .int (nI (clN (ofN (toN Z) dy p hh1 ff1 tt1 2 (twoQ Z k))))), (4, .int (nI (clN (ofN (toN Z) dy p hh1 ff1 tt1 2 (oneQ Z k))))), (3, .ref n2), (2, .ref (rw ((toV Z) k))), (0, .ref s)] C iX9_pass_236 rfl rfl (by decide) rfl ?_
                  rw [show (nI k) + 1 = nI (k + 1) from nI_add _ _]
                  refine J_goto 2 C iX9_pass_239 rfl ?_
                  refine J_lvm [(1, .int (nI (k + 1))), (0, .ref s)] rfl ?_
                  refine J_room (rc2 := 1 * (4 - (k + 1))) (rs2 := 3 * (4 - (k + 1))) (by omega) (by omega) ?_
                  exact ih (hh1, ff1, tt1, (cc1 + 1)) ⟨by rw [pdN, hI1]; exact pdS_yes hgo h3 (if_neg (fun q => he3 q.2.2)), ok3⟩
              · refine J_icmpne 231 C iX9_pass_215 rfl (fun h215 => ?_) (fun h215 => absurd h215 (fun e => he2 ((cu_inj (by omega) (by omega)).mp e)))
                refine J_iconst 1 C iX9_pass_231 rfl ?_
                refine J_iadd C iX9_pass_232 ?_
                refine J_put ((((arrI Z n2 3 (upd (upd (upd (fun _ => 0) 0 (nI (hh1 ((toV Z) k)))) 1 (cuI (ff1 ((toV Z) k)))) 2 (cuI (tt1 ((toV Z) k)))) ++ wSim Z s (toN Z) (toM Z) hA lA oA tA eA (fun j => some (rw j)) (fun j => some (lr j)) fo ft fe dy (cc1 + 1)) ++ wRw Z (toN Z) rw p hh1 ff1 tt1) ++ wPl Z L) ++ wLr Z (toM Z) lr (toK Z) (toV Z)) 1 C iX9_pass_233 pf_X9_39 rfl rfl rfl (Nat.le_of_ble_eq_true rfl) rfl ?_
                refine J_drop [] (arrI Z n2 3 (upd (upd (upd (fun _ => 0) 0 (nI (hh1 ((toV Z) k)))) 1 (cuI (ff1 ((toV Z) k)))) 2 (cuI (tt1 ((toV Z) k))))) (((wSim Z s (toN Z) (toM Z) hA lA oA tA eA (fun j => some (rw j)) (fun j => some (lr j)) fo ft fe dy (cc1 + 1) ++ wRw Z (toN Z) rw p hh1 ff1 tt1) ++ wPl Z L) ++ wLr Z (toM Z) lr (toK Z) (toV Z)) (by simp only [List.append_assoc, List.append_nil, List.nil_append]) ?_
                refine J_ws (((wSim Z s (toN Z) (toM Z) hA lA oA tA eA (fun j => some (rw j)) (fun j => some (lr j)) fo ft fe dy (cc1 + 1) ++ wRw Z (toN Z) rw p hh1 ff1 tt1) ++ wPl Z L) ++ wLr Z (toM Z) lr (toK Z) (toV Z)) (by simp only [List.append_assoc, List.append_nil, List.nil_append]) ?_
                refine J_iinc ((nI k) + 1) [(1, .int ((nI k) + 1)), (5, .int (nI (clN (ofN (toN Z) dy p hh1 ff1 tt1 2 (twoQ Z k))))), (4, .int (nI (clN (ofN (toN Z) dy p hh1 ff1 tt1 2 (oneQ Z k))))), (3, .ref n2), (2, .ref (rw ((toV Z) k))), (0, .ref s)] C iX9_pass_236 rfl rfl (by decide) rfl ?_
                rw [show (nI k) + 1 = nI (k + 1) from nI_add _ _]
                refine J_goto 2 C iX9_pass_239 rfl ?_
                refine J_lvm [(1, .int (nI (k + 1))), (0, .ref s)] rfl ?_
                refine J_room (rc2 := 1 * (4 - (k + 1))) (rs2 := 3 * (4 - (k + 1))) (by omega) (by omega) ?_
                exact ih (hh1, ff1, tt1, (cc1 + 1)) ⟨by rw [pdN, hI1]; exact pdS_yes hgo h3 (if_neg (fun q => he2 q.2.1)), ok3⟩
            · refine J_icmpne 231 C iX9_pass_206 rfl (fun h206 => ?_) (fun h206 => absurd h206 (fun e => he1 ((nI_eq (by omega) (by omega)).mp e)))
              refine J_iconst 1 C iX9_pass_231 rfl ?_
              refine J_iadd C iX9_pass_232 ?_
              refine J_put ((((arrI Z n2 3 (upd (upd (upd (fun _ => 0) 0 (nI (hh1 ((toV Z) k)))) 1 (cuI (ff1 ((toV Z) k)))) 2 (cuI (tt1 ((toV Z) k)))) ++ wSim Z s (toN Z) (toM Z) hA lA oA tA eA (fun j => some (rw j)) (fun j => some (lr j)) fo ft fe dy (cc1 + 1)) ++ wRw Z (toN Z) rw p hh1 ff1 tt1) ++ wPl Z L) ++ wLr Z (toM Z) lr (toK Z) (toV Z)) 1 C iX9_pass_233 pf_X9_39 rfl rfl rfl (Nat.le_of_ble_eq_true rfl) rfl ?_
              refine J_drop [] (arrI Z n2 3 (upd (upd (upd (fun _ => 0) 0 (nI (hh1 ((toV Z) k)))) 1 (cuI (ff1 ((toV Z) k)))) 2 (cuI (tt1 ((toV Z) k))))) (((wSim Z s (toN Z) (toM Z) hA lA oA tA eA (fun j => some (rw j)) (fun j => some (lr j)) fo ft fe dy (cc1 + 1) ++ wRw Z (toN Z) rw p hh1 ff1 tt1) ++ wPl Z L) ++ wLr Z (toM Z) lr (toK Z) (toV Z)) (by simp only [List.append_assoc, List.append_nil, List.nil_append]) ?_
              refine J_ws (((wSim Z s (toN Z) (toM Z) hA lA oA tA eA (fun j => some (rw j)) (fun j => some (lr j)) fo ft fe dy (cc1 + 1) ++ wRw Z (toN Z) rw p hh1 ff1 tt1) ++ wPl Z L) ++ wLr Z (toM Z) lr (toK Z) (toV Z)) (by simp only [List.append_assoc, List.append_nil, List.nil_append]) ?_
              refine J_iinc ((nI k) + 1) [(1, .int ((nI k) + 1)), (5, .int (nI (clN (ofN (toN Z) dy p hh1 ff1 tt1 2 (twoQ Z k))))), (4, .int (nI (clN (ofN (toN Z) dy p hh1 ff1 tt1 2 (oneQ Z k))))), (3, .ref n2), (2, .ref (rw ((toV Z) k))), (0, .ref s)] C iX9_pass_236 rfl rfl (by decide) rfl ?_
              rw [show (nI k) + 1 = nI (k + 1) from nI_add _ _]
              refine J_goto 2 C iX9_pass_239 rfl ?_
              refine J_lvm [(1, .int (nI (k + 1))), (0, .ref s)] rfl ?_
              refine J_room (rc2 := 1 * (4 - (k + 1))) (rs2 := 3 * (4 - (k + 1))) (by omega) (by omega) ?_
              exact ih (hh1, ff1, tt1, (cc1 + 1)) ⟨by rw [pdN, hI1]; exact pdS_yes hgo h3 (if_neg (fun q => he1 q.1)), ok3⟩
        · refine J_aload_n C iX9_pass_73 rfl rfl ?_
          refine J_get (.ref lA) 1 C iX9_pass_74 gf_X9_15 rfl rfl ?_
          refine J_iload_n C iX9_pass_77 rfl rfl ?_
          refine J_aaldA 3 C iX9_pass_78 rfl (vp_in_nI (n := k) (by omega) (by omega)) ?_
          rw [nI_clamp (n := k) (by omega)]
          refine J_st (.ref (lr k) :: []) rfl ?_
          refine J_iconst 0 C iX9_pass_79 rfl ?_
          refine J_iald (n := 2) (f := lrwF (toK Z) (toV Z) k) (((((arrI Z n2 3 (upd (upd (upd (fun _ => 0) 0 (nI (hh1 ((toV Z) k)))) 1 (cuI (ff1 ((toV Z) k)))) 2 (cuI (tt1 ((toV Z) k)))) ++ wSim Z s (toN Z) (toM Z) hA lA oA tA eA (fun j => some (rw j)) (fun j => some (lr j)) fo ft fe dy cc1) ++ wRw Z (toN Z) rw p hh1 ff1 tt1) ++ wPl Z L)).length + k) C iX9_pass_80 (mid_at (A := (((arrI Z n2 3 (upd (upd (upd (fun _ => 0) 0 (nI (hh1 ((toV Z) k)))) 1 (cuI (ff1 ((toV Z) k)))) 2 (cuI (tt1 ((toV Z) k)))) ++ wSim Z s (toN Z) (toM Z) hA lA oA tA eA (fun j => some (rw j)) (fun j => some (lr j)) fo ft fe dy cc1) ++ wRw Z (toN Z) rw p hh1 ff1 tt1) ++ wPl Z L)) (M := wLr Z (toM Z) lr (toK Z) (toV Z)) (B := []) (by simp only [List.append_assoc, List.append_nil, List.nil_append]) (wLr_at (by omega))) (vp_in_nI (n := 0) (by decide) (by decide)) ?_
          refine J_st (.int (nI ((toK Z) k)) :: []) rfl ?_
          rw [hk0]
          refine J_st (.int 1 :: []) rfl ?_
          refine J_ifne 142 C iX9_pass_81 rfl (fun h81 => ?_) (fun h81 => absurd h81 (by decide))
          refine J_aload_n C iX9_pass_142 rfl rfl ?_
          refine J_get (.ref lA) 1 C iX9_pass_143 gf_X9_15 rfl rfl ?_
          refine J_iload_n C iX9_pass_146 rfl rfl ?_
          refine J_aaldA 3 C iX9_pass_147 rfl (vp_in_nI (n := k) (by omega) (by omega)) ?_
          rw [nI_clamp (n := k) (by omega)]
          refine J_st (.ref (lr k) :: []) rfl ?_
          refine J_iconst 0 C iX9_pass_148 rfl ?_
          refine J_iald (n := 2) (f := lrwF (toK Z) (toV Z) k) (((((arrI Z n2 3 (upd (upd (upd (fun _ => 0) 0 (nI (hh1 ((toV Z) k)))) 1 (cuI (ff1 ((toV Z) k)))) 2 (cuI (tt1 ((toV Z) k)))) ++ wSim Z s (toN Z) (toM Z) hA lA oA tA eA (fun j => some (rw j)) (fun j => some (lr j)) fo ft fe dy cc1) ++ wRw Z (toN Z) rw p hh1 ff1 tt1) ++ wPl Z L)).length + k) C iX9_pass_149 (mid_at (A := (((arrI Z n2 3 (upd (upd (upd (fun _ => 0) 0 (nI (hh1 ((toV Z) k)))) 1 (cuI (ff1 ((toV Z) k)))) 2 (cuI (tt1 ((toV Z) k)))) ++ wSim Z s (toN Z) (toM Z) hA lA oA tA eA (fun j => some (rw j)) (fun j => some (lr j)) fo ft fe dy cc1) ++ wRw Z (toN Z) rw p hh1 ff1 tt1) ++ wPl Z L)) (M := wLr Z (toM Z) lr (toK Z) (toV Z)) (B := []) (by simp only [List.append_assoc, List.append_nil, List.nil_append]) (wLr_at (by omega))) (vp_in_nI (n := 0) (by decide) (by decide)) ?_
          refine J_st (.int (nI ((toK Z) k)) :: []) rfl ?_
          rw [hk0]
          refine J_st (.int 1 :: []) rfl ?_
          refine J_iconst 1 C iX9_pass_150 rfl ?_
          refine J_icmpne 165 C iX9_pass_151 rfl (fun h151 => absurd (by decide) h151) (fun h151 => ?_)
          refine J_aload_n C iX9_pass_154 rfl rfl ?_
          refine J_iconst 2 C iX9_pass_155 rfl ?_
          refine J_iconst (-1) C iX9_pass_156 rfl ?_
          refine J_iast (n := 4) (f := rowF p hh1 ff1 tt1 ((toV Z) k)) ((((arrI Z n2 3 (upd (upd (upd (fun _ => 0) 0 (nI (hh1 ((toV Z) k)))) 1 (cuI (ff1 ((toV Z) k)))) 2 (cuI (tt1 ((toV Z) k)))) ++ wSim Z s (toN Z) (toM Z) hA lA oA tA eA (fun j => some (rw j)) (fun j => some (lr j)) fo ft fe dy cc1) ++ wRw Z (toN Z) rw p hh1 (upN ff1 ((toV Z) k) 0) tt1) ++ wPl Z L) ++ wLr Z (toM Z) lr (toK Z) (toV Z)) (((arrI Z n2 3 (upd (upd (upd (fun _ => 0) 0 (nI (hh1 ((toV Z) k)))) 1 (cuI (ff1 ((toV Z) k)))) 2 (cuI (tt1 ((toV Z) k)))) ++ wSim Z s (toN Z) (toM Z) hA lA oA tA eA (fun j => some (rw j)) (fun j => some (lr j)) fo ft fe dy cc1)).length + ((toV Z) k)) C iX9_pass_157 (mid_at (A := (arrI Z n2 3 (upd (upd (upd (fun _ => 0) 0 (nI (hh1 ((toV Z) k)))) 1 (cuI (ff1 ((toV Z) k)))) 2 (cuI (tt1 ((toV Z) k)))) ++ wSim Z s (toN Z) (toM Z) hA lA oA tA eA (fun j => some (rw j)) (fun j => some (lr j)) fo ft fe dy cc1)) (M := wRw Z (toN Z) rw p hh1 ff1 tt1) (B := (wPl Z L ++ wLr Z (toM Z) lr (toK Z) (toV Z))) (by simp only [List.append_assoc, List.append_nil, List.nil_append]) (wRw_at (by omega))) (vp_in_nI (n := 2) (by decide) (by decide)) ?_ ?_
          · rw [show Int32.toNatClampNeg 2 = 2 from rfl]; rw [show (-1) = cuI 0 from rfl]; exact (mid_set (A := (arrI Z n2 3 (upd (upd (upd (fun _ => 0) 0 (nI (hh1 ((toV Z) k)))) 1 (cuI (ff1 ((toV Z) k)))) 2 (cuI (tt1 ((toV Z) k)))) ++ wSim Z s (toN Z) (toM Z) hA lA oA tA eA (fun j => some (rw j)) (fun j => some (lr j)) fo ft fe dy cc1)) (M := wRw Z (toN Z) rw p hh1 ff1 tt1) (B := (wPl Z L ++ wLr Z (toM Z) lr (toK Z) (toV Z))) (by simp only [List.append_assoc, List.append_nil, List.nil_append]) (by rw [wRw_len]; omega) (wRw_set (by omega) row_f (fun j hj hne => by simp [upN, hne]))).trans (by simp only [List.append_assoc, List.append_nil, List.nil_append])
          refine J_aload_n C iX9_pass_158 rfl rfl ?_
          refine J_iconst 3 C iX9_pass_159 rfl ?_
          refine J_iconst (-1) C iX9_pass_160 rfl ?_
          refine J_iast (n := 4) (f := rowF p hh1 (upN ff1 ((toV Z) k) 0) tt1 ((toV Z) k)) ((((arrI Z n2 3 (upd (upd (upd (fun _ => 0) 0 (nI (hh1 ((toV Z) k)))) 1 (cuI (ff1 ((toV Z) k)))) 2 (cuI (tt1 ((toV Z) k)))) ++ wSim Z s (toN Z) (toM Z) hA lA oA tA eA (fun j => some (rw j)) (fun j => some (lr j)) fo ft fe dy cc1) ++ wRw Z (toN Z) rw p hh1 (upN ff1 ((toV Z) k) 0) (upN tt1 ((toV Z) k) 0)) ++ wPl Z L) ++ wLr Z (toM Z) lr (toK Z) (toV Z)) (((arrI Z n2 3 (upd (upd (upd (fun _ => 0) 0 (nI (hh1 ((toV Z) k)))) 1 (cuI (ff1 ((toV Z) k)))) 2 (cuI (tt1 ((toV Z) k)))) ++ wSim Z s (toN Z) (toM Z) hA lA oA tA eA (fun j => some (rw j)) (fun j => some (lr j)) fo ft fe dy cc1)).length + ((toV Z) k)) C iX9_pass_161 (mid_at (A := (arrI Z n2 3 (upd (upd (upd (fun _ => 0) 0 (nI (hh1 ((toV Z) k)))) 1 (cuI (ff1 ((toV Z) k)))) 2 (cuI (tt1 ((toV Z) k)))) ++ wSim Z s (toN Z) (toM Z) hA lA oA tA eA (fun j => some (rw j)) (fun j => some (lr j)) fo ft fe dy cc1)) (M := wRw Z (toN Z) rw p hh1 (upN ff1 ((toV Z) k) 0) tt1) (B := (wPl Z L ++ wLr Z (toM Z) lr (toK Z) (toV Z))) (by simp only [List.append_assoc, List.append_nil, List.nil_append]) (wRw_at (by omega))) (vp_in_nI (n := 3) (by decide) (by decide)) ?_ ?_
          · rw [show Int32.toNatClampNeg 3 = 3 from rfl]; rw [show (-1) = cuI 0 from rfl]; exact (mid_set (A := (arrI Z n2 3 (upd (upd (upd (fun _ => 0) 0 (nI (hh1 ((toV Z) k)))) 1 (cuI (ff1 ((toV Z) k)))) 2 (cuI (tt1 ((toV Z) k)))) ++ wSim Z s (toN Z) (toM Z) hA lA oA tA eA (fun j => some (rw j)) (fun j => some (lr j)) fo ft fe dy cc1)) (M := wRw Z (toN Z) rw p hh1 (upN ff1 ((toV Z) k) 0) tt1) (B := (wPl Z L ++ wLr Z (toM Z) lr (toK Z) (toV Z))) (by simp only [List.append_assoc, List.append_nil, List.nil_append]) (by rw [wRw_len]; omega) (wRw_set (by omega) row_t (fun j hj hne => by simp [upN, hne]))).trans (by simp only [List.append_assoc, List.append_nil, List.nil_append])
          refine J_goto 195 C iX9_pass_162 rfl ?_
          have h3 : pd3 Z p dy hh1 ff1 tt1 k = (hh1, upN ff1 ((toV Z) k) 0, upN tt1 ((toV Z) k) 0) := by rw [pd3, if_neg (by omega), if_pos hk0]
          have ok3 : SnOk (toN Z) p hh1 (upN ff1 ((toV Z) k) 0) (upN tt1 ((toV Z) k) 0) := (hI2.upC (Or.inl ⟨rfl, rfl⟩))
          generalize upN ff1 ((toV Z) k) 0 = f3_ at h3 ok3 ⊢
          generalize upN tt1 ((toV Z) k) 0 = t3_ at h3 ok3 ⊢
          have hv3 := (ok3.2 (toV Z k) hvl)
          refine J_aload_n C iX9_pass_195 rfl rfl ?_
          refine J_dup C iX9_pass_196 rfl ?_
          refine J_get (.int cc1) 1 C iX9_pass_197 gf_X9_39 rfl rfl ?_
          refine J_aload_n C iX9_pass_200 rfl rfl ?_
          refine J_iconst 1 C iX9_pass_201 rfl ?_
          refine J_iald (n := 4) (f := rowF p hh1 f3_ t3_ ((toV Z) k)) (((arrI Z n2 3 (upd (upd (upd (fun _ => 0) 0 (nI (hh1 ((toV Z) k)))) 1 (cuI (ff1 ((toV Z) k)))) 2 (cuI (tt1 ((toV Z) k)))) ++ wSim Z s (toN Z) (toM Z) hA lA oA tA eA (fun j => some (rw j)) (fun j => some (lr j)) fo ft fe dy cc1)).length + ((toV Z) k)) C iX9_pass_202 (mid_at (A := (arrI Z n2 3 (upd (upd (upd (fun _ => 0) 0 (nI (hh1 ((toV Z) k)))) 1 (cuI (ff1 ((toV Z) k)))) 2 (cuI (tt1 ((toV Z) k)))) ++ wSim Z s (toN Z) (toM Z) hA lA oA tA eA (fun j => some (rw j)) (fun j => some (lr j)) fo ft fe dy cc1)) (M := wRw Z (toN Z) rw p hh1 f3_ t3_) (B := (wPl Z L ++ wLr Z (toM Z) lr (toK Z) (toV Z))) (by simp only [List.append_assoc, List.append_nil, List.nil_append]) (wRw_at (by omega))) (vp_in_nI (n := 1) (by decide) (by decide)) ?_
          refine J_st (.int (nI (hh1 ((toV Z) k))) :: .int cc1 :: .ref s :: []) rfl ?_
          refine J_aload_n C iX9_pass_203 rfl rfl ?_
          refine J_iconst 0 C iX9_pass_204 rfl ?_
          refine J_iald 0 C iX9_pass_205 rfl (vp_in_nI (n := 0) (by omega) (by omega)) ?_
          rw [show Int32.toNatClampNeg 0 = 0 from rfl]
          by_cases he1 : hh1 (toV Z k) = hh1 (toV Z k)
          · refine J_icmpne 231 C iX9_pass_206 rfl (fun h206 => absurd (show nI (hh1 (toV Z k)) = nI (hh1 (toV Z k)) from congrArg nI he1) h206) (fun h206 => ?_)
            refine J_aload_n C iX9_pass_209 rfl rfl ?_
            refine J_iconst 2 C iX9_pass_210 rfl ?_
            refine J_iald (n := 4) (f := rowF p hh1 f3_ t3_ ((toV Z) k)) (((arrI Z n2 3 (upd (upd (upd (fun _ => 0) 0 (nI (hh1 ((toV Z) k)))) 1 (cuI (ff1 ((toV Z) k)))) 2 (cuI (tt1 ((toV Z) k)))) ++ wSim Z s (toN Z) (toM Z) hA lA oA tA eA (fun j => some (rw j)) (fun j => some (lr j)) fo ft fe dy cc1)).length + ((toV Z) k)) C iX9_pass_211 (mid_at (A := (arrI Z n2 3 (upd (upd (upd (fun _ => 0) 0 (nI (hh1 ((toV Z) k)))) 1 (cuI (ff1 ((toV Z) k)))) 2 (cuI (tt1 ((toV Z) k)))) ++ wSim Z s (toN Z) (toM Z) hA lA oA tA eA (fun j => some (rw j)) (fun j => some (lr j)) fo ft fe dy cc1)) (M := wRw Z (toN Z) rw p hh1 f3_ t3_) (B := (wPl Z L ++ wLr Z (toM Z) lr (toK Z) (toV Z))) (by simp only [List.append_assoc, List.append_nil, List.nil_append]) (wRw_at (by omega))) (vp_in_nI (n := 2) (by decide) (by decide)) ?_
            refine J_st (.int (cuI (f3_ ((toV Z) k))) :: .int cc1 :: .ref s :: []) rfl ?_
            refine J_aload_n C iX9_pass_212 rfl rfl ?_
            refine J_iconst 1 C iX9_pass_213 rfl ?_
            refine J_iald 0 C iX9_pass_214 rfl (vp_in_nI (n := 1) (by omega) (by omega)) ?_
            rw [show Int32.toNatClampNeg 1 = 1 from rfl]
            by_cases he2 : f3_ (toV Z k) = ff1 (toV Z k)
            · refine J_icmpne 231 C iX9_pass_215 rfl (fun h215 => absurd (show cuI (f3_ (toV Z k)) = cuI (ff1 (toV Z k)) from congrArg cuI he2) h215) (fun h215 => ?_)
              refine J_aload_n C iX9_pass_218 rfl rfl ?_
              refine J_iconst 3 C iX9_pass_219 rfl ?_
              refine J_iald (n := 4) (f := rowF p hh1 f3_ t3_ ((toV Z) k)) (((arrI Z n2 3 (upd (upd (upd (fun _ => 0) 0 (nI (hh1 ((toV Z) k)))) 1 (cuI (ff1 ((toV Z) k)))) 2 (cuI (tt1 ((toV Z) k)))) ++ wSim Z s (toN Z) (toM Z) hA lA oA tA eA (fun j => some (rw j)) (fun j => some (lr j)) fo ft fe dy cc1)).length + ((toV Z) k)) C iX9_pass_220 (mid_at (A := (arrI Z n2 3 (upd (upd (upd (fun _ => 0) 0 (nI (hh1 ((toV Z) k)))) 1 (cuI (ff1 ((toV Z) k)))) 2 (cuI (tt1 ((toV Z) k)))) ++ wSim Z s (toN Z) (toM Z) hA lA oA tA eA (fun j => some (rw j)) (fun j => some (lr j)) fo ft fe dy cc1)) (M := wRw Z (toN Z) rw p hh1 f3_ t3_) (B := (wPl Z L ++ wLr Z (toM Z) lr (toK Z) (toV Z))) (by simp only [List.append_assoc, List.append_nil, List.nil_append]) (wRw_at (by omega))) (vp_in_nI (n := 3) (by decide) (by decide)) ?_
              refine J_st (.int (cuI (t3_ ((toV Z) k))) :: .int cc1 :: .ref s :: []) rfl ?_
              refine J_aload_n C iX9_pass_221 rfl rfl ?_
              refine J_iconst 2 C iX9_pass_222 rfl ?_
              refine J_iald 0 C iX9_pass_223 rfl (vp_in_nI (n := 2) (by omega) (by omega)) ?_
              rw [show Int32.toNatClampNeg 2 = 2 from rfl]
              by_cases he3 : t3_ (toV Z k) = tt1 (toV Z k)
              · refine J_icmpne 231 C iX9_pass_224 rfl (fun h224 => absurd (show cuI (t3_ (toV Z k)) = cuI (tt1 (toV Z k)) from congrArg cuI he3) h224) (fun h224 => ?_)
                refine J_iconst 0 C iX9_pass_227 rfl ?_
                refine J_goto 232 C iX9_pass_228 rfl ?_
                refine J_iadd C iX9_pass_232 ?_
                refine J_put ((((arrI Z n2 3 (upd (upd (upd (fun _ => 0) 0 (nI (hh1 ((toV Z) k)))) 1 (cuI (ff1 ((toV Z) k)))) 2 (cuI (tt1 ((toV Z) k)))) ++ wSim Z s (toN Z) (toM Z) hA lA oA tA eA (fun j => some (rw j)) (fun j => some (lr j)) fo ft fe dy (cc1 + 0)) ++ wRw Z (toN Z) rw p hh1 f3_ t3_) ++ wPl Z L) ++ wLr Z (toM Z) lr (toK Z) (toV Z)) 1 C iX9_pass_233 pf_X9_39 rfl rfl rfl (Nat.le_of_ble_eq_true rfl) rfl ?_
                refine J_drop [] (arrI Z n2 3 (upd (upd (upd (fun _ => 0) 0 (nI (hh1 ((toV Z) k)))) 1 (cuI (ff1 ((toV Z) k)))) 2 (cuI (tt1 ((toV Z) k))))) (((wSim Z s (toN Z) (toM Z) hA lA oA tA eA (fun j => some (rw j)) (fun j => some (lr j)) fo ft fe dy (cc1 + 0) ++ wRw Z (toN Z) rw p hh1 f3_ t3_) ++ wPl Z L) ++ wLr Z (toM Z) lr (toK Z) (toV Z)) (by simp only [List.append_assoc, List.append_nil, List.nil_append]) ?_
                refine J_ws (((wSim Z s (toN Z) (toM Z) hA lA oA tA eA (fun j => some (rw j)) (fun j => some (lr j)) fo ft fe dy (cc1 + 0) ++ wRw Z (toN Z) rw p hh1 f3_ t3_) ++ wPl Z L) ++ wLr Z (toM Z) lr (toK Z) (toV Z)) (by simp only [List.append_assoc, List.append_nil, List.nil_append]) ?_
                refine J_iinc ((nI k) + 1) [(1, .int ((nI k) + 1)), (3, .ref n2), (2, .ref (rw ((toV Z) k))), (0, .ref s)] C iX9_pass_236 rfl rfl (by decide) rfl ?_
                rw [show (nI k) + 1 = nI (k + 1) from nI_add _ _]
                refine J_goto 2 C iX9_pass_239 rfl ?_
                refine J_lvm [(1, .int (nI (k + 1))), (0, .ref s)] rfl ?_
                refine J_room (rc2 := 1 * (4 - (k + 1))) (rs2 := 3 * (4 - (k + 1))) (by omega) (by omega) ?_
                exact ih (hh1, f3_, t3_, (cc1 + 0)) ⟨by rw [pdN, hI1]; exact pdS_yes hgo h3 (if_pos ⟨he1, he2, he3⟩), ok3⟩
              · refine J_icmpne 231 C iX9_pass_224 rfl (fun h224 => ?_) (fun h224 => absurd h224 (fun e => he3 ((cu_inj (by omega) (by omega)).mp e)))
                refine J_iconst 1 C iX9_pass_231 rfl ?_
                refine J_iadd C iX9_pass_232 ?_
                refine J_put ((((arrI Z n2 3 (upd (upd (upd (fun _ => 0) 0 (nI (hh1 ((toV Z) k)))) 1 (cuI (ff1 ((toV Z) k)))) 2 (cuI (tt1 ((toV Z) k)))) ++ wSim Z s (toN Z) (toM Z) hA lA oA tA eA (fun j => some (rw j)) (fun j => some (lr j)) fo ft fe dy (cc1 + 1)) ++ wRw Z (toN Z) rw p hh1 f3_ t3_) ++ wPl Z L) ++ wLr Z (toM Z) lr (toK Z) (toV Z)) 1 C iX9_pass_233 pf_X9_39 rfl rfl rfl (Nat.le_of_ble_eq_true rfl) rfl ?_
                refine J_drop [] (arrI Z n2 3 (upd (upd (upd (fun _ => 0) 0 (nI (hh1 ((toV Z) k)))) 1 (cuI (ff1 ((toV Z) k)))) 2 (cuI (tt1 ((toV Z) k))))) (((wSim Z s (toN Z) (toM Z) hA lA oA tA eA (fun j => some (rw j)) (fun j => some (lr j)) fo ft fe dy (cc1 + 1) ++ wRw Z (toN Z) rw p hh1 f3_ t3_) ++ wPl Z L) ++ wLr Z (toM Z) lr (toK Z) (toV Z)) (by simp only [List.append_assoc, List.append_nil, List.nil_append]) ?_
                refine J_ws (((wSim Z s (toN Z) (toM Z) hA lA oA tA eA (fun j => some (rw j)) (fun j => some (lr j)) fo ft fe dy (cc1 + 1) ++ wRw Z (toN Z) rw p hh1 f3_ t3_) ++ wPl Z L) ++ wLr Z (toM Z) lr (toK Z) (toV Z)) (by simp only [List.append_assoc, List.append_nil, List.nil_append]) ?_
                refine J_iinc ((nI k) + 1) [(1, .int ((nI k) + 1)), (3, .ref n2), (2, .ref (rw ((toV Z) k))), (0, .ref s)] C iX9_pass_236 rfl rfl (by decide) rfl ?_
                rw [show (nI k) + 1 = nI (k + 1) from nI_add _ _]
                refine J_goto 2 C iX9_pass_239 rfl ?_
                refine J_lvm [(1, .int (nI (k + 1))), (0, .ref s)] rfl ?_
                refine J_room (rc2 := 1 * (4 - (k + 1))) (rs2 := 3 * (4 - (k + 1))) (by omega) (by omega) ?_
                exact ih (hh1, f3_, t3_, (cc1 + 1)) ⟨by rw [pdN, hI1]; exact pdS_yes hgo h3 (if_neg (fun q => he3 q.2.2)), ok3⟩
            · refine J_icmpne 231 C iX9_pass_215 rfl (fun h215 => ?_) (fun h215 => absurd h215 (fun e => he2 ((cu_inj (by omega) (by omega)).mp e)))
              refine J_iconst 1 C iX9_pass_231 rfl ?_
              refine J_iadd C iX9_pass_232 ?_
              refine J_put ((((arrI Z n2 3 (upd (upd (upd (fun _ => 0) 0 (nI (hh1 ((toV Z) k)))) 1 (cuI (ff1 ((toV Z) k)))) 2 (cuI (tt1 ((toV Z) k)))) ++ wSim Z s (toN Z) (toM Z) hA lA oA tA eA (fun j => some (rw j)) (fun j => some (lr j)) fo ft fe dy (cc1 + 1)) ++ wRw Z (toN Z) rw p hh1 f3_ t3_) ++ wPl Z L) ++ wLr Z (toM Z) lr (toK Z) (toV Z)) 1 C iX9_pass_233 pf_X9_39 rfl rfl rfl (Nat.le_of_ble_eq_true rfl) rfl ?_
              refine J_drop [] (arrI Z n2 3 (upd (upd (upd (fun _ => 0) 0 (nI (hh1 ((toV Z) k)))) 1 (cuI (ff1 ((toV Z) k)))) 2 (cuI (tt1 ((toV Z) k))))) (((wSim Z s (toN Z) (toM Z) hA lA oA tA eA (fun j => some (rw j)) (fun j => some (lr j)) fo ft fe dy (cc1 + 1) ++ wRw Z (toN Z) rw p hh1 f3_ t3_) ++ wPl Z L) ++ wLr Z (toM Z) lr (toK Z) (toV Z)) (by simp only [List.append_assoc, List.append_nil, List.nil_append]) ?_
              refine J_ws (((wSim Z s (toN Z) (toM Z) hA lA oA tA eA (fun j => some (rw j)) (fun j => some (lr j)) fo ft fe dy (cc1 + 1) ++ wRw Z (toN Z) rw p hh1 f3_ t3_) ++ wPl Z L) ++ wLr Z (toM Z) lr (toK Z) (toV Z)) (by simp only [List.append_assoc, List.append_nil, List.nil_append]) ?_
              refine J_iinc ((nI k) + 1) [(1, .int ((nI k) + 1)), (3, .ref n2), (2, .ref (rw ((toV Z) k))), (0, .ref s)] C iX9_pass_236 rfl rfl (by decide) rfl ?_
              rw [show (nI k) + 1 = nI (k + 1) from nI_add _ _]
              refine J_goto 2 C iX9_pass_239 rfl ?_
              refine J_lvm [(1, .int (nI (k + 1))), (0, .ref s)] rfl ?_
              refine J_room (rc2 := 1 * (4 - (k + 1))) (rs2 := 3 * (4 - (k + 1))) (by omega) (by omega) ?_
              exact ih (hh1, f3_, t3_, (cc1 + 1)) ⟨by rw [pdN, hI1]; exact pdS_yes hgo h3 (if_neg (fun q => he2 q.2.1)), ok3⟩
          · refine J_icmpne 231 C iX9_pass_206 rfl (fun h206 => ?_) (fun h206 => absurd h206 (fun e => he1 ((nI_eq (by omega) (by omega)).mp e)))
            refine J_iconst 1 C iX9_pass_231 rfl ?_
            refine J_iadd C iX9_pass_232 ?_
            refine J_put ((((arrI Z n2 3 (upd (upd (upd (fun _ => 0) 0 (nI (hh1 ((toV Z) k)))) 1 (cuI (ff1 ((toV Z) k)))) 2 (cuI (tt1 ((toV Z) k)))) ++ wSim Z s (toN Z) (toM Z) hA lA oA tA eA (fun j => some (rw j)) (fun j => some (lr j)) fo ft fe dy (cc1 + 1)) ++ wRw Z (toN Z) rw p hh1 f3_ t3_) ++ wPl Z L) ++ wLr Z (toM Z) lr (toK Z) (toV Z)) 1 C iX9_pass_233 pf_X9_39 rfl rfl rfl (Nat.le_of_ble_eq_true rfl) rfl ?_
            refine J_drop [] (arrI Z n2 3 (upd (upd (upd (fun _ => 0) 0 (nI (hh1 ((toV Z) k)))) 1 (cuI (ff1 ((toV Z) k)))) 2 (cuI (tt1 ((toV Z) k))))) (((wSim Z s (toN Z) (toM Z) hA lA oA tA eA (fun j => some (rw j)) (fun j => some (lr j)) fo ft fe dy (cc1 + 1) ++ wRw Z (toN Z) rw p hh1 f3_ t3_) ++ wPl Z L) ++ wLr Z (toM Z) lr (toK Z) (toV Z)) (by simp only [List.append_assoc, List.append_nil, List.nil_append]) ?_
            refine J_ws (((wSim Z s (toN Z) (toM Z) hA lA oA tA eA (fun j => some (rw j)) (fun j => some (lr j)) fo ft fe dy (cc1 + 1) ++ wRw Z (toN Z) rw p hh1 f3_ t3_) ++ wPl Z L) ++ wLr Z (toM Z) lr (toK Z) (toV Z)) (by simp only [List.append_assoc, List.append_nil, List.nil_append]) ?_
            refine J_iinc ((nI k) + 1) [(1, .int ((nI k) + 1)), (3, .ref n2), (2, .ref (rw ((toV Z) k))), (0, .ref s)] C iX9_pass_236 rfl rfl (by decide) rfl ?_
            rw [show (nI k) + 1 = nI (k + 1) from nI_add _ _]
            refine J_goto 2 C iX9_pass_239 rfl ?_
            refine J_lvm [(1, .int (nI (k + 1))), (0, .ref s)] rfl ?_
            refine J_room (rc2 := 1 * (4 - (k + 1))) (rs2 := 3 * (4 - (k + 1))) (by omega) (by omega) ?_
            exact ih (hh1, f3_, t3_, (cc1 + 1)) ⟨by rw [pdN, hI1]; exact pdS_yes hgo h3 (if_neg (fun q => he1 q.1)), ok3⟩
        · refine J_aload_n C iX9_pass_73 rfl rfl ?_
          refine J_get (.ref lA) 1 C iX9_pass_74 gf_X9_15 rfl rfl ?_
          refine J_iload_n C iX9_pass_77 rfl rfl ?_
          refine J_aaldA 3 C iX9_pass_78 rfl (vp_in_nI (n := k) (by omega) (by omega)) ?_
          rw [nI_clamp (n := k) (by omega)]
          refine J_st (.ref (lr k) :: []) rfl ?_
          refine J_iconst 0 C iX9_pass_79 rfl ?_
          refine J_iald (n := 2) (f := lrwF (toK Z) (toV Z) k) (((((arrI Z n2 3 (upd (upd (upd (fun _ => 0) 0 (nI (hh1 ((toV Z) k)))) 1 (cuI (ff1 ((toV Z) k)))) 2 (cuI (tt1 ((toV Z) k)))) ++ wSim Z s (toN Z) (toM Z) hA lA oA tA eA (fun j => some (rw j)) (fun j => some (lr j)) fo ft fe dy cc1) ++ wRw Z (toN Z) rw p hh1 ff1 tt1) ++ wPl Z L)).length + k) C iX9_pass_80 (mid_at (A := (((arrI Z n2 3 (upd (upd (upd (fun _ => 0) 0 (nI (hh1 ((toV Z) k)))) 1 (cuI (ff1 ((toV Z) k)))) 2 (cuI (tt1 ((toV Z) k)))) ++ wSim Z s (toN Z) (toM Z) hA lA oA tA eA (fun j => some (rw j)) (fun j => some (lr j)) fo ft fe dy cc1) ++ wRw Z (toN Z) rw p hh1 ff1 tt1) ++ wPl Z L)) (M := wLr Z (toM Z) lr (toK Z) (toV Z)) (B := []) (by simp only [List.append_assoc, List.append_nil, List.nil_append]) (wLr_at (by omega))) (vp_in_nI (n := 0) (by decide) (by decide)) ?_
          refine J_st (.int (nI ((toK Z) k)) :: []) rfl ?_
          rw [hk0]
          refine J_st (.int 2 :: []) rfl ?_
          refine J_ifne 142 C iX9_pass_81 rfl (fun h81 => ?_) (fun h81 => absurd h81 (by decide))
          refine J_aload_n C iX9_pass_142 rfl rfl ?_
          refine J_get (.ref lA) 1 C iX9_pass_143 gf_X9_15 rfl rfl ?_
          refine J_iload_n C iX9_pass_146 rfl rfl ?_
          refine J_aaldA 3 C iX9_pass_147 rfl (vp_in_nI (n := k) (by omega) (by omega)) ?_
          rw [nI_clamp (n := k) (by omega)]
          refine J_st (.ref (lr k) :: []) rfl ?_
          refine J_iconst 0 C iX9_pass_148 rfl ?_
          refine J_iald (n := 2) (f := lrwF (toK Z) (toV Z) k) (((((arrI Z n2 3 (upd (upd (upd (fun _ => 0) 0 (nI (hh1 ((toV Z) k)))) 1 (cuI (ff1 ((toV Z) k)))) 2 (cuI (tt1 ((toV Z) k)))) ++ wSim Z s (toN Z) (toM Z) hA lA oA tA eA (fun j => some (rw j)) (fun j => some (lr j)) fo ft fe dy cc1) ++ wRw Z (toN Z) rw p hh1 ff1 tt1) ++ wPl Z L)).length + k) C iX9_pass_149 (mid_at (A := (((arrI Z n2 3 (upd (upd (upd (fun _ => 0) 0 (nI (hh1 ((toV Z) k)))) 1 (cuI (ff1 ((toV Z) k)))) 2 (cuI (tt1 ((toV Z) k)))) ++ wSim Z s (toN Z) (toM Z) hA lA oA tA eA (fun j => some (rw j)) (fun j => some (lr j)) fo ft fe dy cc1) ++ wRw Z (toN Z) rw p hh1 ff1 tt1) ++ wPl Z L)) (M := wLr Z (toM Z) lr (toK Z) (toV Z)) (B := []) (by simp only [List.append_assoc, List.append_nil, List.nil_append]) (wLr_at (by omega))) (vp_in_nI (n := 0) (by decide) (by decide)) ?_
          refine J_st (.int (nI ((toK Z) k)) :: []) rfl ?_
          rw [hk0]
          refine J_st (.int 2 :: []) rfl ?_
          refine J_iconst 1 C iX9_pass_150 rfl ?_
          refine J_icmpne 165 C iX9_pass_151 rfl (fun h151 => ?_) (fun h151 => absurd h151 (by decide))
          refine J_aload_n C iX9_pass_165 rfl rfl ?_
          refine J_iconst 1 C iX9_pass_166 rfl ?_
          refine J_aload_n C iX9_pass_167 rfl rfl ?_
          refine J_iconst 1 C iX9_pass_168 rfl ?_
          refine J_iald (n := 4) (f := rowF p hh1 ff1 tt1 ((toV Z) k)) (((arrI Z n2 3 (upd (upd (upd (fun _ => 0) 0 (nI (hh1 ((toV Z) k)))) 1 (cuI (ff1 ((toV Z) k)))) 2 (cuI (tt1 ((toV Z) k)))) ++ wSim Z s (toN Z) (toM Z) hA lA oA tA eA (fun j => some (rw j)) (fun j => some (lr j)) fo ft fe dy cc1)).length + ((toV Z) k)) C iX9_pass_169 (mid_at (A := (arrI Z n2 3 (upd (upd (upd (fun _ => 0) 0 (nI (hh1 ((toV Z) k)))) 1 (cuI (ff1 ((toV Z) k)))) 2 (cuI (tt1 ((toV Z) k)))) ++ wSim Z s (toN Z) (toM Z) hA lA oA tA eA (fun j => some (rw j)) (fun j => some (lr j)) fo ft fe dy cc1)) (M := wRw Z (toN Z) rw p hh1 ff1 tt1) (B := (wPl Z L ++ wLr Z (toM Z) lr (toK Z) (toV Z))) (by simp only [List.append_assoc, List.append_nil, List.nil_append]) (wRw_at (by omega))) (vp_in_nI (n := 1) (by decide) (by decide)) ?_
          refine J_st (.int (nI (hh1 ((toV Z) k))) :: .int 1 :: .ref (rw ((toV Z) k)) :: []) rfl ?_
          refine J_aload_n C iX9_pass_170 rfl rfl ?_
          refine J_get (.ref oA) 1 C iX9_pass_171 gf_X9_20 rfl rfl ?_
          refine J_iload_n C iX9_pass_174 rfl rfl ?_
          refine J_aaldT 4 C iX9_pass_175 rfl (vp_in_nI (n := k) (by omega) (by omega)) ?_
          rw [nI_clamp (n := k) (by omega)]
          rw [eo9]
          refine J_st (.ref ao :: .int (nI (hh1 ((toV Z) k))) :: .int 1 :: .ref (rw ((toV Z) k)) :: []) rfl ?_
          refine J_aload_n C iX9_pass_176 rfl rfl ?_
          obtain ⟨j7, e7, f7⟩ := InT.at ho
          refine J_cVb (As := [.ref s]) (st := .int (nI (hh1 ((toV Z) k))) :: .int 1 :: .ref (rw ((toV Z) k)) :: []) (rc2 := 0 + 1 * (1 * (4 - (k + 1)))) (rs2 := 0 + 1 * (3 * (4 - (k + 1)))) (w0 := ((wSim Z s (toN Z) (toM Z) hA lA oA tA eA (fun j => some (rw j)) (fun j => some (lr j)) fo ft fe dy cc1 ++ wRw Z (toN Z) rw p hh1 ff1 tt1) ++ wPl Z L)) (q0 := ((wSim Z s (toN Z) (toM Z) hA lA oA tA eA (fun j => some (rw j)) (fun j => some (lr j)) fo ft fe dy cc1 ++ wRw Z (toN Z) rw p hh1 ff1 tt1)).length + j7) C iX9_pass_177 lm_X9_63 yc_X10_of yv_X10_of (c_X10_of (p := p) (h := hh1) (f := ff1) (t := tt1) hI2 (by omega) 2 ho) rfl rfl (mid_at (A := (wSim Z s (toN Z) (toM Z) hA lA oA tA eA (fun j => some (rw j)) (fun j => some (lr j)) fo ft fe dy cc1 ++ wRw Z (toN Z) rw p hh1 ff1 tt1)) (M := wPl Z L) (B := []) (by simp only [List.append_assoc, List.append_nil, List.nil_append]) (wPl_at f7)) (arrI Z n2 3 (upd (upd (upd (fun _ => 0) 0 (nI (hh1 ((toV Z) k)))) 1 (cuI (ff1 ((toV Z) k)))) 2 (cuI (tt1 ((toV Z) k))))) (wLr Z (toM Z) lr (toK Z) (toV Z)) (by simp only [List.append_assoc, List.append_nil, List.nil_append]) rfl (rmK_le (by omega) (by decide)) (Nat.le_of_ble_eq_true rfl) (Nat.zero_add _).symm (Nat.zero_add _).symm ?_
          rintro _ _ ⟨rfl, rfl⟩
          refine J_st (.int (ofN (toN Z) dy p hh1 ff1 tt1 2 (oneQ Z k)) :: .int (nI (hh1 ((toV Z) k))) :: .int 1 :: .ref (rw ((toV Z) k)) :: []) rfl ?_
          refine J_ws ((((arrI Z n2 3 (upd (upd (upd (fun _ => 0) 0 (nI (hh1 ((toV Z) k)))) 1 (cuI (ff1 ((toV Z) k)))) 2 (cuI (tt1 ((toV Z) k)))) ++ wSim Z s (toN Z) (toM Z) hA lA oA tA eA (fun j => some (rw j)) (fun j => some (lr j)) fo ft fe dy cc1) ++ wRw Z (toN Z) rw p hh1 ff1 tt1) ++ wPl Z L) ++ wLr Z (toM Z) lr (toK Z) (toV Z)) (by simp only [List.append_assoc, List.append_nil, List.nil_append]) ?_
          refine J_aload_n C iX9_pass_180 rfl rfl ?_
          refine J_iconst 1 C iX9_pass_181 rfl ?_
          refine J_iald (n := 4) (f := rowF p hh1 ff1 tt1 ((toV Z) k)) (((arrI Z n2 3 (upd (upd (upd (fun _ => 0) 0 (nI (hh1 ((toV Z) k)))) 1 (cuI (ff1 ((toV Z) k)))) 2 (cuI (tt1 ((toV Z) k)))) ++ wSim Z s (toN Z) (toM Z) hA lA oA tA eA (fun j => some (rw j)) (fun j => some (lr j)) fo ft fe dy cc1)).length + ((toV Z) k)) C iX9_pass_182 (mid_at (A := (arrI Z n2 3 (upd (upd (upd (fun _ => 0) 0 (nI (hh1 ((toV Z) k)))) 1 (cuI (ff1 ((toV Z) k)))) 2 (cuI (tt1 ((toV Z) k)))) ++ wSim Z s (toN Z) (toM Z) hA lA oA tA eA (fun j => some (rw j)) (fun j => some (lr j)) fo ft fe dy cc1)) (M := wRw Z (toN Z) rw p hh1 ff1 tt1) (B := (wPl Z L ++ wLr Z (toM Z) lr (toK Z) (toV Z))) (by simp only [List.append_assoc, List.append_nil, List.nil_append]) (wRw_at (by omega))) (vp_in_nI (n := 1) (by decide) (by decide)) ?_
          refine J_st (.int (nI (hh1 ((toV Z) k))) :: .int (ofN (toN Z) dy p hh1 ff1 tt1 2 (oneQ Z k)) :: .int (nI (hh1 ((toV Z) k))) :: .int 1 :: .ref (rw ((toV Z) k)) :: []) rfl ?_
          refine J_ineg C iX9_pass_183 ?_
          refine J_bipush 30 C iX9_pass_184 rfl ?_
          refine J_aload_n C iX9_pass_186 rfl rfl ?_
          refine J_iconst 1 C iX9_pass_187 rfl ?_
          refine J_iald (n := 4) (f := rowF p hh1 ff1 tt1 ((toV Z) k)) (((arrI Z n2 3 (upd (upd (upd (fun _ => 0) 0 (nI (hh1 ((toV Z) k)))) 1 (cuI (ff1 ((toV Z) k)))) 2 (cuI (tt1 ((toV Z) k)))) ++ wSim Z s (toN Z) (toM Z) hA lA oA tA eA (fun j => some (rw j)) (fun j => some (lr j)) fo ft fe dy cc1)).length + ((toV Z) k)) C iX9_pass_188 (mid_at (A := (arrI Z n2 3 (upd (upd (upd (fun _ => 0) 0 (nI (hh1 ((toV Z) k)))) 1 (cuI (ff1 ((toV Z) k)))) 2 (cuI (tt1 ((toV Z) k)))) ++ wSim Z s (toN Z) (toM Z) hA lA oA tA eA (fun j => some (rw j)) (fun j => some (lr j)) fo ft fe dy cc1)) (M := wRw Z (toN Z) rw p hh1 ff1 tt1) (B := (wPl Z L ++ wLr Z (toM Z) lr (toK Z) (toV Z))) (by simp only [List.append_assoc, List.append_nil, List.nil_append]) (wRw_at (by omega))) (vp_in_nI (n := 1) (by decide) (by decide)) ?_
          refine J_st (.int (nI (hh1 ((toV Z) k))) :: .int 30 :: .int (-(nI (hh1 ((toV Z) k)))) :: .int (ofN (toN Z) dy p hh1 ff1 tt1 2 (oneQ Z k)) :: .int (nI (hh1 ((toV Z) k))) :: .int 1 :: .ref (rw ((toV Z) k)) :: []) rfl ?_
          refine J_isub C iX9_pass_189 ?_
          refine J_cSb (As := [.int (ofN (toN Z) dy p hh1 ff1 tt1 2 (oneQ Z k)), .int (-(nI (hh1 ((toV Z) k)))), .int (30 - (nI (hh1 ((toV Z) k))))]) (st := .int (nI (hh1 ((toV Z) k))) :: .int 1 :: .ref (rw ((toV Z) k)) :: []) (rc2 := 0 + 1 * (1 * (4 - (k + 1)))) (rs2 := 0 + 1 * (3 * (4 - (k + 1)))) (w0 := []) C iX9_pass_190 lm_X9_67 yc_X9_held ys_X9_held (c_X9_held (v := ofN (toN Z) dy p hh1 ff1 tt1 2 (oneQ Z k)) (lo := -(nI (hh1 ((toV Z) k)))) (hi := 30 - (nI (hh1 ((toV Z) k))))) [] ((((arrI Z n2 3 (upd (upd (upd (fun _ => 0) 0 (nI (hh1 ((toV Z) k)))) 1 (cuI (ff1 ((toV Z) k)))) 2 (cuI (tt1 ((toV Z) k)))) ++ wSim Z s (toN Z) (toM Z) hA lA oA tA eA (fun j => some (rw j)) (fun j => some (lr j)) fo ft fe dy cc1) ++ wRw Z (toN Z) rw p hh1 ff1 tt1) ++ wPl Z L) ++ wLr Z (toM Z) lr (toK Z) (toV Z)) (by simp only [List.append_assoc, List.append_nil, List.nil_append]) rfl (rmK_le (by omega) (by decide)) (Nat.le_of_ble_eq_true rfl) (Nat.zero_add _).symm (Nat.zero_add _).symm ?_
          rintro _ _ ⟨rfl, rfl⟩
          refine J_st (.int (hdI (ofN (toN Z) dy p hh1 ff1 tt1 2 (oneQ Z k)) (-(nI (hh1 ((toV Z) k)))) (30 - (nI (hh1 ((toV Z) k))))) :: .int (nI (hh1 ((toV Z) k))) :: .int 1 :: .ref (rw ((toV Z) k)) :: []) rfl ?_
          refine J_ws ((((arrI Z n2 3 (upd (upd (upd (fun _ => 0) 0 (nI (hh1 ((toV Z) k)))) 1 (cuI (ff1 ((toV Z) k)))) 2 (cuI (tt1 ((toV Z) k)))) ++ wSim Z s (toN Z) (toM Z) hA lA oA tA eA (fun j => some (rw j)) (fun j => some (lr j)) fo ft fe dy cc1) ++ wRw Z (toN Z) rw p hh1 ff1 tt1) ++ wPl Z L) ++ wLr Z (toM Z) lr (toK Z) (toV Z)) (by simp only [List.append_assoc, List.append_nil, List.nil_append]) ?_
          refine J_iadd C iX9_pass_193 ?_
          refine J_iast (n := 4) (f := rowF p hh1 ff1 tt1 ((toV Z) k)) ((((arrI Z n2 3 (upd (upd (upd (fun _ => 0) 0 (nI (hh1 ((toV Z) k)))) 1 (cuI (ff1 ((toV Z) k)))) 2 (cuI (tt1 ((toV Z) k)))) ++ wSim Z s (toN Z) (toM Z) hA lA oA tA eA (fun j => some (rw j)) (fun j => some (lr j)) fo ft fe dy cc1) ++ wRw Z (toN Z) rw p (upN hh1 ((toV Z) k) (raN (hh1 (toV Z k)) (ofN (toN Z) dy p hh1 ff1 tt1 2 (oneQ Z k)))) ff1 tt1) ++ wPl Z L) ++ wLr Z (toM Z) lr (toK Z) (toV Z)) (((arrI Z n2 3 (upd (upd (upd (fun _ => 0) 0 (nI (hh1 ((toV Z) k)))) 1 (cuI (ff1 ((toV Z) k)))) 2 (cuI (tt1 ((toV Z) k)))) ++ wSim Z s (toN Z) (toM Z) hA lA oA tA eA (fun j => some (rw j)) (fun j => some (lr j)) fo ft fe dy cc1)).length + ((toV Z) k)) C iX9_pass_194 (mid_at (A := (arrI Z n2 3 (upd (upd (upd (fun _ => 0) 0 (nI (hh1 ((toV Z) k)))) 1 (cuI (ff1 ((toV Z) k)))) 2 (cuI (tt1 ((toV Z) k)))) ++ wSim Z s (toN Z) (toM Z) hA lA oA tA eA (fun j => some (rw j)) (fun j => some (lr j)) fo ft fe dy cc1)) (M := wRw Z (toN Z) rw p hh1 ff1 tt1) (B := (wPl Z L ++ wLr Z (toM Z) lr (toK Z) (toV Z))) (by simp only [List.append_assoc, List.append_nil, List.nil_append]) (wRw_at (by omega))) (vp_in_nI (n := 1) (by decide) (by decide)) ?_ ?_
          · rw [show Int32.toNatClampNeg 1 = 1 from rfl]; rw [show (nI (hh1 ((toV Z) k))) + (hdI (ofN (toN Z) dy p hh1 ff1 tt1 2 (oneQ Z k)) (-(nI (hh1 ((toV Z) k)))) (30 - (nI (hh1 ((toV Z) k))))) = nI (raN (hh1 (toV Z k)) (ofN (toN Z) dy p hh1 ff1 tt1 2 (oneQ Z k))) from (hd_ra (by omega) _).1]; exact (mid_set (A := (arrI Z n2 3 (upd (upd (upd (fun _ => 0) 0 (nI (hh1 ((toV Z) k)))) 1 (cuI (ff1 ((toV Z) k)))) 2 (cuI (tt1 ((toV Z) k)))) ++ wSim Z s (toN Z) (toM Z) hA lA oA tA eA (fun j => some (rw j)) (fun j => some (lr j)) fo ft fe dy cc1)) (M := wRw Z (toN Z) rw p hh1 ff1 tt1) (B := (wPl Z L ++ wLr Z (toM Z) lr (toK Z) (toV Z))) (by simp only [List.append_assoc, List.append_nil, List.nil_append]) (by rw [wRw_len]; omega) (wRw_set (by omega) row_h (fun j hj hne => by simp [upN, hne]))).trans (by simp only [List.append_assoc, List.append_nil, List.nil_append])
          have h3 : pd3 Z p dy hh1 ff1 tt1 k = (upN hh1 ((toV Z) k) (raN (hh1 (toV Z k)) (ofN (toN Z) dy p hh1 ff1 tt1 2 (oneQ Z k))), ff1, tt1) := by rw [pd3, if_neg (by omega), if_neg (by omega)]
          have ok3 : SnOk (toN Z) p (upN hh1 ((toV Z) k) (raN (hh1 (toV Z k)) (ofN (toN Z) dy p hh1 ff1 tt1 2 (oneQ Z k)))) ff1 tt1 := (hI2.upH (hd_ra (by omega) _).2)
          generalize upN hh1 ((toV Z) k) (raN (hh1 (toV Z k)) (ofN (toN Z) dy p hh1 ff1 tt1 2 (oneQ Z k))) = h3_ at h3 ok3 ⊢
          have hv3 := (ok3.2 (toV Z k) hvl)
          refine J_aload_n C iX9_pass_195 rfl rfl ?_
          refine J_dup C iX9_pass_196 rfl ?_
          refine J_get (.int cc1) 1 C iX9_pass_197 gf_X9_39 rfl rfl ?_
          refine J_aload_n C iX9_pass_200 rfl rfl ?_
          refine J_iconst 1 C iX9_pass_201 rfl ?_
          refine J_iald (n := 4) (f := rowF p h3_ ff1 tt1 ((toV Z) k)) (((arrI Z n2 3 (upd (upd (upd (fun _ => 0) 0 (nI (hh1 ((toV Z) k)))) 1 (cuI (ff1 ((toV Z) k)))) 2 (cuI (tt1 ((toV Z) k)))) ++ wSim Z s (toN Z) (toM Z) hA lA oA tA eA (fun j => some (rw j)) (fun j => some (lr j)) fo ft fe dy cc1)).length + ((toV Z) k)) C iX9_pass_202 (mid_at (A := (arrI Z n2 3 (upd (upd (upd (fun _ => 0) 0 (nI (hh1 ((toV Z) k)))) 1 (cuI (ff1 ((toV Z) k)))) 2 (cuI (tt1 ((toV Z) k)))) ++ wSim Z s (toN Z) (toM Z) hA lA oA tA eA (fun j => some (rw j)) (fun j => some (lr j)) fo ft fe dy cc1)) (M := wRw Z (toN Z) rw p h3_ ff1 tt1) (B := (wPl Z L ++ wLr Z (toM Z) lr (toK Z) (toV Z))) (by simp only [List.append_assoc, List.append_nil, List.nil_append]) (wRw_at (by omega))) (vp_in_nI (n := 1) (by decide) (by decide)) ?_
          refine J_st (.int (nI (h3_ ((toV Z) k))) :: .int cc1 :: .ref s :: []) rfl ?_
          refine J_aload_n C iX9_pass_203 rfl rfl ?_
          refine J_iconst 0 C iX9_pass_204 rfl ?_
          refine J_iald 0 C iX9_pass_205 rfl (vp_in_nI (n := 0) (by omega) (by omega)) ?_
          rw [show Int32.toNatClampNeg 0 = 0 from rfl]
          by_cases he1 : h3_ (toV Z k) = hh1 (toV Z k)
          · refine J_icmpne 231 C iX9_pass_206 rfl (fun h206 => absurd (show nI (h3_ (toV Z k)) = nI (hh1 (toV Z k)) from congrArg nI he1) h206) (fun h206 => ?_)
            refine J_aload_n C iX9_pass_209 rfl rfl ?_
            refine J_iconst 2 C iX9_pass_210 rfl ?_
            refine J_iald (n := 4) (f := rowF p h3_ ff1 tt1 ((toV Z) k)) (((arrI Z n2 3 (upd (upd (upd (fun _ => 0) 0 (nI (hh1 ((toV Z) k)))) 1 (cuI (ff1 ((toV Z) k)))) 2 (cuI (tt1 ((toV Z) k)))) ++ wSim Z s (toN Z) (toM Z) hA lA oA tA eA (fun j => some (rw j)) (fun j => some (lr j)) fo ft fe dy cc1)).length + ((toV Z) k)) C iX9_pass_211 (mid_at (A := (arrI Z n2 3 (upd (upd (upd (fun _ => 0) 0 (nI (hh1 ((toV Z) k)))) 1 (cuI (ff1 ((toV Z) k)))) 2 (cuI (tt1 ((toV Z) k)))) ++ wSim Z s (toN Z) (toM Z) hA lA oA tA eA (fun j => some (rw j)) (fun j => some (lr j)) fo ft fe dy cc1)) (M := wRw Z (toN Z) rw p h3_ ff1 tt1) (B := (wPl Z L ++ wLr Z (toM Z) lr (toK Z) (toV Z))) (by simp only [List.append_assoc, List.append_nil, List.nil_append]) (wRw_at (by omega))) (vp_in_nI (n := 2) (by decide) (by decide)) ?_
            refine J_st (.int (cuI (ff1 ((toV Z) k))) :: .int cc1 :: .ref s :: []) rfl ?_
            refine J_aload_n C iX9_pass_212 rfl rfl ?_
            refine J_iconst 1 C iX9_pass_213 rfl ?_
            refine J_iald 0 C iX9_pass_214 rfl (vp_in_nI (n := 1) (by omega) (by omega)) ?_
            rw [show Int32.toNatClampNeg 1 = 1 from rfl]
            by_cases he2 : ff1 (toV Z k) = ff1 (toV Z k)
            · refine J_icmpne 231 C iX9_pass_215 rfl (fun h215 => absurd (show cuI (ff1 (toV Z k)) = cuI (ff1 (toV Z k)) from congrArg cuI he2) h215) (fun h215 => ?_)
              refine J_aload_n C iX9_pass_218 rfl rfl ?_
              refine J_iconst 3 C iX9_pass_219 rfl ?_
              refine J_iald (n := 4) (f := rowF p h3_ ff1 tt1 ((toV Z) k)) (((arrI Z n2 3 (upd (upd (upd (fun _ => 0) 0 (nI (hh1 ((toV Z) k)))) 1 (cuI (ff1 ((toV Z) k)))) 2 (cuI (tt1 ((toV Z) k)))) ++ wSim Z s (toN Z) (toM Z) hA lA oA tA eA (fun j => some (rw j)) (fun j => some (lr j)) fo ft fe dy cc1)).length + ((toV Z) k)) C iX9_pass_220 (mid_at (A := (arrI Z n2 3 (upd (upd (upd (fun _ => 0) 0 (nI (hh1 ((toV Z) k)))) 1 (cuI (ff1 ((toV Z) k)))) 2 (cuI (tt1 ((toV Z) k)))) ++ wSim Z s (toN Z) (toM Z) hA lA oA tA eA (fun j => some (rw j)) (fun j => some (lr j)) fo ft fe dy cc1)) (M := wRw Z (toN Z) rw p h3_ ff1 tt1) (B := (wPl Z L ++ wLr Z (toM Z) lr (toK Z) (toV Z))) (by simp only [List.append_assoc, List.append_nil, List.nil_append]) (wRw_at (by omega))) (vp_in_nI (n := 3) (by decide) (by decide)) ?_
              refine J_st (.int (cuI (tt1 ((toV Z) k))) :: .int cc1 :: .ref s :: []) rfl ?_
              refine J_aload_n C iX9_pass_221 rfl rfl ?_
              refine J_iconst 2 C iX9_pass_222 rfl ?_
              refine J_iald 0 C iX9_pass_223 rfl (vp_in_nI (n := 2) (by omega) (by omega)) ?_
              rw [show Int32.toNatClampNeg 2 = 2 from rfl]
              by_cases he3 : tt1 (toV Z k) = tt1 (toV Z k)
              · refine J_icmpne 231 C iX9_pass_224 rfl (fun h224 => absurd (show cuI (tt1 (toV Z k)) = cuI (tt1 (toV Z k)) from congrArg cuI he3) h224) (fun h224 => ?_)
                refine J_iconst 0 C iX9_pass_227 rfl ?_
                refine J_goto 232 C iX9_pass_228 rfl ?_
                refine J_iadd C iX9_pass_232 ?_
                refine J_put ((((arrI Z n2 3 (upd (upd (upd (fun _ => 0) 0 (nI (hh1 ((toV Z) k)))) 1 (cuI (ff1 ((toV Z) k)))) 2 (cuI (tt1 ((toV Z) k)))) ++ wSim Z s (toN Z) (toM Z) hA lA oA tA eA (fun j => some (rw j)) (fun j => some (lr j)) fo ft fe dy (cc1 + 0)) ++ wRw Z (toN Z) rw p h3_ ff1 tt1) ++ wPl Z L) ++ wLr Z (toM Z) lr (toK Z) (toV Z)) 1 C iX9_pass_233 pf_X9_39 rfl rfl rfl (Nat.le_of_ble_eq_true rfl) rfl ?_
                refine J_drop [] (arrI Z n2 3 (upd (upd (upd (fun _ => 0) 0 (nI (hh1 ((toV Z) k)))) 1 (cuI (ff1 ((toV Z) k)))) 2 (cuI (tt1 ((toV Z) k))))) (((wSim Z s (toN Z) (toM Z) hA lA oA tA eA (fun j => some (rw j)) (fun j => some (lr j)) fo ft fe dy (cc1 + 0) ++ wRw Z (toN Z) rw p h3_ ff1 tt1) ++ wPl Z L) ++ wLr Z (toM Z) lr (toK Z) (toV Z)) (by simp only [List.append_assoc, List.append_nil, List.nil_append]) ?_
                refine J_ws (((wSim Z s (toN Z) (toM Z) hA lA oA tA eA (fun j => some (rw j)) (fun j => some (lr j)) fo ft fe dy (cc1 + 0) ++ wRw Z (toN Z) rw p h3_ ff1 tt1) ++ wPl Z L) ++ wLr Z (toM Z) lr (toK Z) (toV Z)) (by simp only [List.append_assoc, List.append_nil, List.nil_append]) ?_
                refine J_iinc ((nI k) + 1) [(1, .int ((nI k) + 1)), (3, .ref n2), (2, .ref (rw ((toV Z) k))), (0, .ref s)] C iX9_pass_236 rfl rfl (by decide) rfl ?_
                rw [show (nI k) + 1 = nI (k + 1) from nI_add _ _]
                refine J_goto 2 C iX9_pass_239 rfl ?_
                refine J_lvm [(1, .int (nI (k + 1))), (0, .ref s)] rfl ?_
                refine J_room (rc2 := 1 * (4 - (k + 1))) (rs2 := 3 * (4 - (k + 1))) (by omega) (by omega) ?_
                exact ih (h3_, ff1, tt1, (cc1 + 0)) ⟨by rw [pdN, hI1]; exact pdS_yes hgo h3 (if_pos ⟨he1, he2, he3⟩), ok3⟩
              · refine J_icmpne 231 C iX9_pass_224 rfl (fun h224 => ?_) (fun h224 => absurd h224 (fun e => he3 ((cu_inj (by omega) (by omega)).mp e)))
                refine J_iconst 1 C iX9_pass_231 rfl ?_
                refine J_iadd C iX9_pass_232 ?_
                refine J_put ((((arrI Z n2 3 (upd (upd (upd (fun _ => 0) 0 (nI (hh1 ((toV Z) k)))) 1 (cuI (ff1 ((toV Z) k)))) 2 (cuI (tt1 ((toV Z) k)))) ++ wSim Z s (toN Z) (toM Z) hA lA oA tA eA (fun j => some (rw j)) (fun j => some (lr j)) fo ft fe dy (cc1 + 1)) ++ wRw Z (toN Z) rw p h3_ ff1 tt1) ++ wPl Z L) ++ wLr Z (toM Z) lr (toK Z) (toV Z)) 1 C iX9_pass_233 pf_X9_39 rfl rfl rfl (Nat.le_of_ble_eq_true rfl) rfl ?_
                refine J_drop [] (arrI Z n2 3 (upd (upd (upd (fun _ => 0) 0 (nI (hh1 ((toV Z) k)))) 1 (cuI (ff1 ((toV Z) k)))) 2 (cuI (tt1 ((toV Z) k))))) (((wSim Z s (toN Z) (toM Z) hA lA oA tA eA (fun j => some (rw j)) (fun j => some (lr j)) fo ft fe dy (cc1 + 1) ++ wRw Z (toN Z) rw p h3_ ff1 tt1) ++ wPl Z L) ++ wLr Z (toM Z) lr (toK Z) (toV Z)) (by simp only [List.append_assoc, List.append_nil, List.nil_append]) ?_
                refine J_ws (((wSim Z s (toN Z) (toM Z) hA lA oA tA eA (fun j => some (rw j)) (fun j => some (lr j)) fo ft fe dy (cc1 + 1) ++ wRw Z (toN Z) rw p h3_ ff1 tt1) ++ wPl Z L) ++ wLr Z (toM Z) lr (toK Z) (toV Z)) (by simp only [List.append_assoc, List.append_nil, List.nil_append]) ?_
                refine J_iinc ((nI k) + 1) [(1, .int ((nI k) + 1)), (3, .ref n2), (2, .ref (rw ((toV Z) k))), (0, .ref s)] C iX9_pass_236 rfl rfl (by decide) rfl ?_
                rw [show (nI k) + 1 = nI (k + 1) from nI_add _ _]
                refine J_goto 2 C iX9_pass_239 rfl ?_
                refine J_lvm [(1, .int (nI (k + 1))), (0, .ref s)] rfl ?_
                refine J_room (rc2 := 1 * (4 - (k + 1))) (rs2 := 3 * (4 - (k + 1))) (by omega) (by omega) ?_
                exact ih (h3_, ff1, tt1, (cc1 + 1)) ⟨by rw [pdN, hI1]; exact pdS_yes hgo h3 (if_neg (fun q => he3 q.2.2)), ok3⟩
            · refine J_icmpne 231 C iX9_pass_215 rfl (fun h215 => ?_) (fun h215 => absurd h215 (fun e => he2 ((cu_inj (by omega) (by omega)).mp e)))
              refine J_iconst 1 C iX9_pass_231 rfl ?_
              refine J_iadd C iX9_pass_232 ?_
              refine J_put ((((arrI Z n2 3 (upd (upd (upd (fun _ => 0) 0 (nI (hh1 ((toV Z) k)))) 1 (cuI (ff1 ((toV Z) k)))) 2 (cuI (tt1 ((toV Z) k)))) ++ wSim Z s (toN Z) (toM Z) hA lA oA tA eA (fun j => some (rw j)) (fun j => some (lr j)) fo ft fe dy (cc1 + 1)) ++ wRw Z (toN Z) rw p h3_ ff1 tt1) ++ wPl Z L) ++ wLr Z (toM Z) lr (toK Z) (toV Z)) 1 C iX9_pass_233 pf_X9_39 rfl rfl rfl (Nat.le_of_ble_eq_true rfl) rfl ?_
              refine J_drop [] (arrI Z n2 3 (upd (upd (upd (fun _ => 0) 0 (nI (hh1 ((toV Z) k)))) 1 (cuI (ff1 ((toV Z) k)))) 2 (cuI (tt1 ((toV Z) k))))) (((wSim Z s (toN Z) (toM Z) hA lA oA tA eA (fun j => some (rw j)) (fun j => some (lr j)) fo ft fe dy (cc1 + 1) ++ wRw Z (toN Z) rw p h3_ ff1 tt1) ++ wPl Z L) ++ wLr Z (toM Z) lr (toK Z) (toV Z)) (by simp only [List.append_assoc, List.append_nil, List.nil_append]) ?_
              refine J_ws (((wSim Z s (toN Z) (toM Z) hA lA oA tA eA (fun j => some (rw j)) (fun j => some (lr j)) fo ft fe dy (cc1 + 1) ++ wRw Z (toN Z) rw p h3_ ff1 tt1) ++ wPl Z L) ++ wLr Z (toM Z) lr (toK Z) (toV Z)) (by simp only [List.append_assoc, List.append_nil, List.nil_append]) ?_
              refine J_iinc ((nI k) + 1) [(1, .int ((nI k) + 1)), (3, .ref n2), (2, .ref (rw ((toV Z) k))), (0, .ref s)] C iX9_pass_236 rfl rfl (by decide) rfl ?_
              rw [show (nI k) + 1 = nI (k + 1) from nI_add _ _]
              refine J_goto 2 C iX9_pass_239 rfl ?_
              refine J_lvm [(1, .int (nI (k + 1))), (0, .ref s)] rfl ?_
              refine J_room (rc2 := 1 * (4 - (k + 1))) (rs2 := 3 * (4 - (k + 1))) (by omega) (by omega) ?_
              exact ih (h3_, ff1, tt1, (cc1 + 1)) ⟨by rw [pdN, hI1]; exact pdS_yes hgo h3 (if_neg (fun q => he2 q.2.1)), ok3⟩
          · refine J_icmpne 231 C iX9_pass_206 rfl (fun h206 => ?_) (fun h206 => absurd h206 (fun e => he1 ((nI_eq (by omega) (by omega)).mp e)))
            refine J_iconst 1 C iX9_pass_231 rfl ?_
            refine J_iadd C iX9_pass_232 ?_
            refine J_put ((((arrI Z n2 3 (upd (upd (upd (fun _ => 0) 0 (nI (hh1 ((toV Z) k)))) 1 (cuI (ff1 ((toV Z) k)))) 2 (cuI (tt1 ((toV Z) k)))) ++ wSim Z s (toN Z) (toM Z) hA lA oA tA eA (fun j => some (rw j)) (fun j => some (lr j)) fo ft fe dy (cc1 + 1)) ++ wRw Z (toN Z) rw p h3_ ff1 tt1) ++ wPl Z L) ++ wLr Z (toM Z) lr (toK Z) (toV Z)) 1 C iX9_pass_233 pf_X9_39 rfl rfl rfl (Nat.le_of_ble_eq_true rfl) rfl ?_
            refine J_drop [] (arrI Z n2 3 (upd (upd (upd (fun _ => 0) 0 (nI (hh1 ((toV Z) k)))) 1 (cuI (ff1 ((toV Z) k)))) 2 (cuI (tt1 ((toV Z) k))))) (((wSim Z s (toN Z) (toM Z) hA lA oA tA eA (fun j => some (rw j)) (fun j => some (lr j)) fo ft fe dy (cc1 + 1) ++ wRw Z (toN Z) rw p h3_ ff1 tt1) ++ wPl Z L) ++ wLr Z (toM Z) lr (toK Z) (toV Z)) (by simp only [List.append_assoc, List.append_nil, List.nil_append]) ?_
            refine J_ws (((wSim Z s (toN Z) (toM Z) hA lA oA tA eA (fun j => some (rw j)) (fun j => some (lr j)) fo ft fe dy (cc1 + 1) ++ wRw Z (toN Z) rw p h3_ ff1 tt1) ++ wPl Z L) ++ wLr Z (toM Z) lr (toK Z) (toV Z)) (by simp only [List.append_assoc, List.append_nil, List.nil_append]) ?_
            refine J_iinc ((nI k) + 1) [(1, .int ((nI k) + 1)), (3, .ref n2), (2, .ref (rw ((toV Z) k))), (0, .ref s)] C iX9_pass_236 rfl rfl (by decide) rfl ?_
            rw [show (nI k) + 1 = nI (k + 1) from nI_add _ _]
            refine J_goto 2 C iX9_pass_239 rfl ?_
            refine J_lvm [(1, .int (nI (k + 1))), (0, .ref s)] rfl ?_
            refine J_room (rc2 := 1 * (4 - (k + 1))) (rs2 := 3 * (4 - (k + 1))) (by omega) (by omega) ?_
            exact ih (h3_, ff1, tt1, (cc1 + 1)) ⟨by rw [pdN, hI1]; exact pdS_yes hgo h3 (if_neg (fun q => he1 q.1)), ok3⟩
      · refine J_icmpeq 37 C iX9_pass_31 rfl (fun h31 => absurd h31 hte) (fun h31 => ?_)
        refine J_goto 236 C iX9_pass_34 rfl ?_
        refine J_iinc ((nI k) + 1) [(1, .int ((nI k) + 1)), (0, .ref s)] C iX9_pass_236 rfl rfl (by decide) rfl ?_
        rw [show (nI k) + 1 = nI (k + 1) from nI_add _ _]
        refine J_goto 2 C iX9_pass_239 rfl ?_
        refine J_lvm [(1, .int (nI (k + 1))), (0, .ref s)] rfl ?_
        refine J_room (rc2 := 1 * (4 - (k + 1))) (rs2 := 3 * (4 - (k + 1))) (by omega) (by omega) ?_
        exact ih (hh1, ff1, tt1, cc1) ⟨by rw [pdN, hI1]; exact pdS_no hw hte, hI2⟩

