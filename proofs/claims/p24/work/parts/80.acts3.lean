/-! the law: acts: set, terms, texts; acts -/
set_option maxRecDepth 100000 in
set_option maxHeartbeats 4000000 in
theorem t_acts_set {Γ : gG} {T : gTy} {r : gR} {l : gLg} {i : gI} {Q : gQ} {x n ln : Nat} {S : Nat → Int32} {P : Nat → Nat → Int32} {tx : Nat → Int32} {a : Nat} {v y t3 t6 : Int32} (hA : gN Γ ≤ x) (hX : lwX T r i x S P n tx ln) (hx : xS S) (hQ : ∀ r' l' i' o' tx' ln', xS (nxS S o') → lwX T r' i' x (nxS S o') (nxP n P S o') (nxN n o') tx' ln' → Q (some (.int 1)) T r' l' i') : G Γ ML_acts 0 0 682 [(0, .ref x), (1, .int v), (2, .int y), (3, .int t3), (4, .int (nI (nW S))), (5, .int (nI a)), (6, .int t6)] [] T r l i Q := by
  have hS := hX.v.1
  have hn5 := (nW_of hS).1
  refine G_iload_n (pc := 682) 2 dL_acts_682 rfl ?_
  refine G_iconst (pc := 683) (v := 4) dL_acts_683 rfl ?_
  refine gS2 (pc := 684) (k' := 0) (n' := 0) dL_acts_684 lkL_36 ⟨by decide, by decide⟩ (Nat.le_of_ble_eq_true rfl) rfl rfl ⟨by decide, by decide⟩ (c_L_low (m := 4) (by decide) (by decide) ?_)
  intro q hq
  dsimp only [gRt]
  refine G_sn7 (pc := 687) (gSt_i dL_acts_687 (by decide)) rfl ?_
  refine G_iload_n (pc := 689) 2 dL_acts_689 rfl ?_
  refine G_iconst (pc := 690) (v := 2) dL_acts_690 rfl ?_
  refine G_ishr (pc := 691) dL_acts_691 ?_
  refine G_bipush (pc := 692) (v := 24) dL_acts_692 rfl ?_
  refine gS2 (pc := 694) (k' := 0) (n' := 0) dL_acts_694 lkL_36 ⟨by decide, by decide⟩ (Nat.le_of_ble_eq_true rfl) rfl rfl ⟨by decide, by decide⟩ (c_L_low (m := 24) (by decide) (by decide) ?_)
  intro g hg
  dsimp only [gRt]
  refine G_sn8 (pc := 697) (gSt_i dL_acts_697 (by decide)) rfl ?_
  by_cases hq3 : q = 3
  · subst hq3
    rw [show nI 3 = 3 from rfl]
    refine G_iload (pc := 699) 7 dL_acts_699 rfl ?_
    refine G_iconst (pc := 701) (v := 3) dL_acts_701 rfl ?_
    refine G_icmp_ne (pc := 702) (tgt := 709) dL_acts_702 (by decide) (fun h702 => ?_) (fun h702 => ?_)
    · exact absurd rfl h702
    · refine G_iconst (pc := 705) (v := 0) dL_acts_705 rfl ?_
      refine G_goto (pc := 706) (tgt := 718) dL_acts_706 (by decide) ?_
      refine G_sn9 (pc := 718) (gSt_i dL_acts_718 (by decide)) rfl ?_
      refine G_iload (pc := 720) 7 dL_acts_720 rfl ?_
      refine G_iconst (pc := 722) (v := 3) dL_acts_722 rfl ?_
      refine G_icmp_eq (pc := 723) (tgt := 750) dL_acts_723 (by decide) (fun h723 => ?_) (fun h723 => ?_)
      · refine G_iconst (pc := 750) (v := 1) dL_acts_750 rfl ?_
        refine G_goto (pc := 751) (tgt := 755) dL_acts_751 (by decide) ?_
        refine G_sn10 (pc := 755) (gSt_i dL_acts_755 (by decide)) rfl ?_
        refine G_aload_n (pc := 757) 0 dL_acts_757 rfl ?_
        refine G_iload (pc := 758) 7 dL_acts_758 rfl ?_
        refine G_iload (pc := 760) 8 dL_acts_760 rfl ?_
        refine gV2 (pc := 762) (k' := 0) (n' := 0) dL_acts_762 lkL_76 ⟨by decide, by decide⟩ (Nat.le_of_ble_eq_true rfl) rfl rfl ⟨by decide, by decide⟩ hX.k (q_set hA hX ?_)
        intro r l i hX
        dsimp only [gRt]
        rw [aSet_3] at hX ⊢
        (try dsimp only at hX ⊢)
        refine G_iload (pc := 765) 10 dL_acts_765 rfl ?_
        refine G_if_eq (pc := 767) (tgt := 775) dL_acts_767 (by decide) (fun h767 => ?_) (fun h767 => ?_)
        · exact absurd h767 (by decide)
        · refine G_ldc (pc := 770) dL_acts_770 kcL_65 ?_
          refine G_goto (pc := 772) (tgt := 777) dL_acts_772 (by decide) ?_
          refine G_icmp_ne (pc := 777) (tgt := 784) dL_acts_777 (by decide) (fun h777 => ?_) (fun h777 => ?_)
          · exact absurd rfl h777
          · refine G_iconst (pc := 780) (v := 1) dL_acts_780 rfl ?_
            refine G_goto (pc := 781) (tgt := 785) dL_acts_781 (by decide) ?_
            refine G_iret (pc := 785) dL_acts_785 ⟨_, rfl, rfl⟩ ⟨by decide, by decide⟩ ?_
            exact hQ r l i none tx ln hx hX
      · exact absurd rfl h723
  · have hq : q < 3 := by omega
    refine G_iload (pc := 699) 7 dL_acts_699 rfl ?_
    refine G_iconst (pc := 701) (v := 3) dL_acts_701 rfl ?_
    refine G_icmp_ne (pc := 702) (tgt := 709) dL_acts_702 (by decide) (fun h702 => ?_) (fun h702 => ?_)
    · refine G_aload_n (pc := 709) 0 dL_acts_709 rfl ?_
      refine G_bipush (pc := 710) (v := 10) dL_acts_710 rfl ?_
      refine G_iload (pc := 712) 7 dL_acts_712 rfl ?_
      refine G_iadd (pc := 714) dL_acts_714 ?_
      refine gV1 (pc := 715) (k' := 0) (n' := 0) dL_acts_715 lkL_13 ⟨by decide, by decide⟩ (Nat.le_of_ble_eq_true rfl) rfl rfl ⟨by decide, by decide⟩ hX.k (q_count hA hX ?_)
      dsimp only [gRt]
      rw [aCount_10 hq]
      refine G_sn9 (pc := 718) (gSt_i dL_acts_718 (by decide)) rfl ?_
      refine G_iload (pc := 720) 7 dL_acts_720 rfl ?_
      refine G_iconst (pc := 722) (v := 3) dL_acts_722 rfl ?_
      refine G_icmp_eq (pc := 723) (tgt := 750) dL_acts_723 (by decide) (fun h723 => ?_) (fun h723 => ?_)
      · exact absurd ((nI_eq (by omega) (by decide)).mp (show nI q = nI 3 from h723)) (by omega)
      · refine G_iload (pc := 726) 8 dL_acts_726 rfl ?_
        refine G_if_eq (pc := 728) (tgt := 750) dL_acts_728 (by decide) (fun h728 => ?_) (fun h728 => ?_)
        · refine G_iconst (pc := 750) (v := 1) dL_acts_750 rfl ?_
          refine G_goto (pc := 751) (tgt := 755) dL_acts_751 (by decide) ?_
          refine G_sn10 (pc := 755) (gSt_i dL_acts_755 (by decide)) rfl ?_
          have g0 : g = 0 := (nI_eq (by omega) (by decide)).mp (show nI g = nI 0 from h728)
          have eB := aSet_n (S := S) hq hg (Or.inl g0)
          refine G_aload_n (pc := 757) 0 dL_acts_757 rfl ?_
          refine G_iload (pc := 758) 7 dL_acts_758 rfl ?_
          refine G_iload (pc := 760) 8 dL_acts_760 rfl ?_
          refine gV2 (pc := 762) (k' := 0) (n' := 0) dL_acts_762 lkL_76 ⟨by decide, by decide⟩ (Nat.le_of_ble_eq_true rfl) rfl rfl ⟨by decide, by decide⟩ hX.k (q_set hA hX ?_)
          intro r l i hX
          dsimp only [gRt]
          rw [eB] at hX ⊢
          (try dsimp only at hX ⊢)
          refine G_iload (pc := 765) 10 dL_acts_765 rfl ?_
          refine G_if_eq (pc := 767) (tgt := 775) dL_acts_767 (by decide) (fun h767 => ?_) (fun h767 => ?_)
          · exact absurd h767 (by decide)
          · refine G_ldc (pc := 770) dL_acts_770 kcL_65 ?_
            refine G_goto (pc := 772) (tgt := 777) dL_acts_772 (by decide) ?_
            refine G_icmp_ne (pc := 777) (tgt := 784) dL_acts_777 (by decide) (fun h777 => ?_) (fun h777 => ?_)
            · exact absurd rfl h777
            · refine G_iconst (pc := 780) (v := 1) dL_acts_780 rfl ?_
              refine G_goto (pc := 781) (tgt := 785) dL_acts_781 (by decide) ?_
              refine G_iret (pc := 785) dL_acts_785 ⟨_, rfl, rfl⟩ ⟨by decide, by decide⟩ ?_
              exact hQ r l i none tx ln hx hX
        · refine G_iload (pc := 731) 7 dL_acts_731 rfl ?_
          refine G_iconst (pc := 733) (v := 2) dL_acts_733 rfl ?_
          refine G_icmp_ne (pc := 734) (tgt := 754) dL_acts_734 (by decide) (fun h734 => ?_) (fun h734 => ?_)
          · refine G_iconst (pc := 754) (v := 0) dL_acts_754 rfl ?_
            refine G_sn10 (pc := 755) (gSt_i dL_acts_755 (by decide)) rfl ?_
            have eA := aSet_y (S := S) hq hg (fun z => h728 (by rw [z]; rfl)) (fun z => absurd (by rw [z]; rfl) h734)
            refine G_aload_n (pc := 757) 0 dL_acts_757 rfl ?_
            refine G_iload (pc := 758) 7 dL_acts_758 rfl ?_
            refine G_iload (pc := 760) 8 dL_acts_760 rfl ?_
            refine gV2 (pc := 762) (k' := 0) (n' := 0) dL_acts_762 lkL_76 ⟨by decide, by decide⟩ (Nat.le_of_ble_eq_true rfl) rfl rfl ⟨by decide, by decide⟩ hX.k (q_set hA hX ?_)
            intro r l i hX
            dsimp only [gRt]
            rw [eA]
            refine G_iload (pc := 765) 10 dL_acts_765 rfl ?_
            refine G_if_eq (pc := 767) (tgt := 775) dL_acts_767 (by decide) (fun h767 => ?_) (fun h767 => ?_)
            · refine G_iload (pc := 775) 9 dL_acts_775 rfl ?_
              refine G_icmp_ne (pc := 777) (tgt := 784) dL_acts_777 (by decide) (fun h777 => ?_) (fun h777 => ?_)
              · exact absurd rfl h777
              · refine G_iconst (pc := 780) (v := 1) dL_acts_780 rfl ?_
                refine G_goto (pc := 781) (tgt := 785) dL_acts_781 (by decide) ?_
                refine G_iret (pc := 785) dL_acts_785 ⟨_, rfl, rfl⟩ ⟨by decide, by decide⟩ ?_
                exact hQ r l i (aSet S (nI q) (nI g)).2 tx ln (x_set hx hS) hX
            · exact absurd rfl h767
          · refine G_iload (pc := 737) 8 dL_acts_737 rfl ?_
            refine G_iconst (pc := 739) (v := 2) dL_acts_739 rfl ?_
            refine G_icmp_lt (pc := 740) (tgt := 750) dL_acts_740 (by decide) (fun h740 => ?_) (fun h740 => ?_)
            · refine G_iconst (pc := 750) (v := 1) dL_acts_750 rfl ?_
              refine G_goto (pc := 751) (tgt := 755) dL_acts_751 (by decide) ?_
              refine G_sn10 (pc := 755) (gSt_i dL_acts_755 (by decide)) rfl ?_
              have eB := aSet_n (S := S) hq hg (Or.inr ⟨(nI_eq (by omega) (by decide)).mp (show nI q = nI 2 from h734), Or.inl ((nI_ltI (by omega) (by decide)).mp (show nI g < nI 2 from h740))⟩)
              refine G_aload_n (pc := 757) 0 dL_acts_757 rfl ?_
              refine G_iload (pc := 758) 7 dL_acts_758 rfl ?_
              refine G_iload (pc := 760) 8 dL_acts_760 rfl ?_
              refine gV2 (pc := 762) (k' := 0) (n' := 0) dL_acts_762 lkL_76 ⟨by decide, by decide⟩ (Nat.le_of_ble_eq_true rfl) rfl rfl ⟨by decide, by decide⟩ hX.k (q_set hA hX ?_)
              intro r l i hX
              dsimp only [gRt]
              rw [eB] at hX ⊢
              (try dsimp only at hX ⊢)
              refine G_iload (pc := 765) 10 dL_acts_765 rfl ?_
              refine G_if_eq (pc := 767) (tgt := 775) dL_acts_767 (by decide) (fun h767 => ?_) (fun h767 => ?_)
              · exact absurd h767 (by decide)
              · refine G_ldc (pc := 770) dL_acts_770 kcL_65 ?_
                refine G_goto (pc := 772) (tgt := 777) dL_acts_772 (by decide) ?_
                refine G_icmp_ne (pc := 777) (tgt := 784) dL_acts_777 (by decide) (fun h777 => ?_) (fun h777 => ?_)
                · exact absurd rfl h777
                · refine G_iconst (pc := 780) (v := 1) dL_acts_780 rfl ?_
                  refine G_goto (pc := 781) (tgt := 785) dL_acts_781 (by decide) ?_
                  refine G_iret (pc := 785) dL_acts_785 ⟨_, rfl, rfl⟩ ⟨by decide, by decide⟩ ?_
                  exact hQ r l i none tx ln hx hX
            · refine G_iload (pc := 743) 8 dL_acts_743 rfl ?_
              refine G_bipush (pc := 745) (v := 20) dL_acts_745 rfl ?_
              refine G_icmp_le (pc := 747) (tgt := 754) dL_acts_747 (by decide) (fun h747 => ?_) (fun h747 => ?_)
              · refine G_iconst (pc := 754) (v := 0) dL_acts_754 rfl ?_
                refine G_sn10 (pc := 755) (gSt_i dL_acts_755 (by decide)) rfl ?_
                have eA := aSet_y (S := S) hq hg (fun z => h728 (by rw [z]; rfl)) (fun _ => ⟨Nat.le_of_not_lt (fun z => h740 (nI_lt z (by decide))), (nI_leI (by omega) (by decide)).mp (show nI g ≤ nI 20 from h747)⟩)
                refine G_aload_n (pc := 757) 0 dL_acts_757 rfl ?_
                refine G_iload (pc := 758) 7 dL_acts_758 rfl ?_
                refine G_iload (pc := 760) 8 dL_acts_760 rfl ?_
                refine gV2 (pc := 762) (k' := 0) (n' := 0) dL_acts_762 lkL_76 ⟨by decide, by decide⟩ (Nat.le_of_ble_eq_true rfl) rfl rfl ⟨by decide, by decide⟩ hX.k (q_set hA hX ?_)
                intro r l i hX
                dsimp only [gRt]
                rw [eA]
                refine G_iload (pc := 765) 10 dL_acts_765 rfl ?_
                refine G_if_eq (pc := 767) (tgt := 775) dL_acts_767 (by decide) (fun h767 => ?_) (fun h767 => ?_)
                · refine G_iload (pc := 775) 9 dL_acts_775 rfl ?_
                  refine G_icmp_ne (pc := 777) (tgt := 784) dL_acts_777 (by decide) (fun h777 => ?_) (fun h777 => ?_)
                  · exact absurd rfl h777
                  · refine G_iconst (pc := 780) (v := 1) dL_acts_780 rfl ?_
                    refine G_goto (pc := 781) (tgt := 785) dL_acts_781 (by decide) ?_
                    refine G_iret (pc := 785) dL_acts_785 ⟨_, rfl, rfl⟩ ⟨by decide, by decide⟩ ?_
                    exact hQ r l i (aSet S (nI q) (nI g)).2 tx ln (x_set hx hS) hX
                · exact absurd rfl h767
              · refine G_iconst (pc := 750) (v := 1) dL_acts_750 rfl ?_
                refine G_goto (pc := 751) (tgt := 755) dL_acts_751 (by decide) ?_
                refine G_sn10 (pc := 755) (gSt_i dL_acts_755 (by decide)) rfl ?_
                have eB := aSet_n (S := S) hq hg (Or.inr ⟨(nI_eq (by omega) (by decide)).mp (show nI q = nI 2 from h734), Or.inr (Nat.lt_of_not_le (fun z => h747 (nI_le z (by decide))))⟩)
                refine G_aload_n (pc := 757) 0 dL_acts_757 rfl ?_
                refine G_iload (pc := 758) 7 dL_acts_758 rfl ?_
                refine G_iload (pc := 760) 8 dL_acts_760 rfl ?_
                refine gV2 (pc := 762) (k' := 0) (n' := 0) dL_acts_762 lkL_76 ⟨by decide, by decide⟩ (Nat.le_of_ble_eq_true rfl) rfl rfl ⟨by decide, by decide⟩ hX.k (q_set hA hX ?_)
                intro r l i hX
                dsimp only [gRt]
                rw [eB] at hX ⊢
                (try dsimp only at hX ⊢)
                refine G_iload (pc := 765) 10 dL_acts_765 rfl ?_
                refine G_if_eq (pc := 767) (tgt := 775) dL_acts_767 (by decide) (fun h767 => ?_) (fun h767 => ?_)
                · exact absurd h767 (by decide)
                · refine G_ldc (pc := 770) dL_acts_770 kcL_65 ?_
                  refine G_goto (pc := 772) (tgt := 777) dL_acts_772 (by decide) ?_
                  refine G_icmp_ne (pc := 777) (tgt := 784) dL_acts_777 (by decide) (fun h777 => ?_) (fun h777 => ?_)
                  · exact absurd rfl h777
                  · refine G_iconst (pc := 780) (v := 1) dL_acts_780 rfl ?_
                    refine G_goto (pc := 781) (tgt := 785) dL_acts_781 (by decide) ?_
                    refine G_iret (pc := 785) dL_acts_785 ⟨_, rfl, rfl⟩ ⟨by decide, by decide⟩ ?_
                    exact hQ r l i none tx ln hx hX
    · exact absurd ((nI_eq (by omega) (by decide)).mp (show nI q = nI 3 from h702)) (by omega)

set_option maxRecDepth 100000 in
set_option maxHeartbeats 4000000 in
theorem t_acts_term {Γ : gG} {T : gTy} {r : gR} {l : gLg} {i : gI} {Q : gQ} {x n ln : Nat} {S : Nat → Int32} {P : Nat → Nat → Int32} {tx : Nat → Int32} {a : Nat} {v y t3 t6 : Int32} (hA : gN Γ ≤ x) (hX : lwX T r i x S P n tx ln) (hx : xS S) (hQ : ∀ r' l' i' o' tx' ln', xS (nxS S o') → lwX T r' i' x (nxS S o') (nxP n P S o') (nxN n o') tx' ln' → Q (some (.int 1)) T r' l' i') : G Γ ML_acts 0 0 799 [(0, .ref x), (1, .int v), (2, .int y), (3, .int t3), (4, .int (nI (nW S))), (5, .int (nI a)), (6, .int t6), (7, .int (nI (tN S)))] [] T r l i Q := by
  have hS := hX.v.1
  have ht6 := (vT_el hS.1).1
  refine G_iload_n (pc := 799) 2 dL_acts_799 rfl ?_
  refine G_bipush (pc := 800) (v := 11) dL_acts_800 rfl ?_
  refine gS2 (pc := 802) (k' := 0) (n' := 0) dL_acts_802 lkL_36 ⟨by decide, by decide⟩ (Nat.le_of_ble_eq_true rfl) rfl rfl ⟨by decide, by decide⟩ (c_L_low (m := 11) (by decide) (by decide) ?_)
  intro u hu
  dsimp only [gRt]
  refine G_iconst (pc := 805) (v := 5) dL_acts_805 rfl ?_
  refine G_isub (pc := 806) dL_acts_806 ?_
  refine G_sn8 (pc := 807) (gSt_i dL_acts_807 (by decide)) rfl ?_
  refine G_iload_n (pc := 809) 2 dL_acts_809 rfl ?_
  refine G_iconst (pc := 810) (v := 4) dL_acts_810 rfl ?_
  refine G_ishr (pc := 811) dL_acts_811 ?_
  refine G_iconst (pc := 812) (v := 4) dL_acts_812 rfl ?_
  refine gS2 (pc := 813) (k' := 0) (n' := 0) dL_acts_813 lkL_36 ⟨by decide, by decide⟩ (Nat.le_of_ble_eq_true rfl) rfl rfl ⟨by decide, by decide⟩ (c_L_low (m := 4) (by decide) (by decide) ?_)
  intro g hg
  dsimp only [gRt]
  refine G_sn9 (pc := 816) (gSt_i dL_acts_816 (by decide)) rfl ?_
  refine G_iload_n (pc := 818) 2 dL_acts_818 rfl ?_
  refine G_bipush (pc := 819) (v := 6) dL_acts_819 rfl ?_
  refine G_ishr (pc := 821) dL_acts_821 ?_
  refine G_iconst (pc := 822) (v := 4) dL_acts_822 rfl ?_
  refine gS2 (pc := 823) (k' := 0) (n' := 0) dL_acts_823 lkL_36 ⟨by decide, by decide⟩ (Nat.le_of_ble_eq_true rfl) rfl rfl ⟨by decide, by decide⟩ (c_L_low (m := 4) (by decide) (by decide) ?_)
  intro e he
  dsimp only [gRt]
  refine G_sn10 (pc := 826) (gSt_i dL_acts_826 (by decide)) rfl ?_
  refine G_aload_n (pc := 828) 0 dL_acts_828 rfl ?_
  refine G_iload (pc := 829) 8 dL_acts_829 rfl ?_
  refine G_iload (pc := 831) 9 dL_acts_831 rfl ?_
  refine G_iload (pc := 833) 10 dL_acts_833 rfl ?_
  refine gV3 (pc := 835) (k' := 0) (n' := 0) dL_acts_835 lkL_79 ⟨by decide, by decide⟩ (Nat.le_of_ble_eq_true rfl) rfl rfl ⟨by decide, by decide⟩ hX.k (q_term hA hX ?_)
  intro r l i hX
  dsimp only [gRt]
  refine G_iload (pc := 838) 8 dL_acts_838 rfl ?_
  refine G_if_eq (pc := 840) (tgt := 852) dL_acts_840 (by decide) (fun h840 => ?_) (fun h840 => ?_)
  · refine G_ldc (pc := 852) dL_acts_852 kcL_65 ?_
    refine G_goto (pc := 854) (tgt := 873) dL_acts_854 (by decide) ?_
    refine G_icmp_ne (pc := 873) (tgt := 880) dL_acts_873 (by decide) (fun h873 => ?_) (fun h873 => ?_)
    · exact absurd (aTerm_b hu hg he (Or.inl h840)) h873
    · refine G_iconst (pc := 876) (v := 1) dL_acts_876 rfl ?_
      refine G_goto (pc := 877) (tgt := 881) dL_acts_877 (by decide) ?_
      refine G_iret (pc := 881) dL_acts_881 ⟨_, rfl, rfl⟩ ⟨by decide, by decide⟩ ?_
      exact hQ r l i (aTerm S (nI u - 5) (nI g) (nI e)).2 tx ln (x_term hx) hX
  · refine G_iload (pc := 843) 9 dL_acts_843 rfl ?_
    refine G_iload (pc := 845) 10 dL_acts_845 rfl ?_
    refine G_iadd (pc := 847) dL_acts_847 ?_
    refine G_iconst (pc := 848) (v := 3) dL_acts_848 rfl ?_
    refine G_icmp_le (pc := 849) (tgt := 857) dL_acts_849 (by decide) (fun h849 => ?_) (fun h849 => ?_)
    · refine G_iload (pc := 857) 7 dL_acts_857 rfl ?_
      refine G_bipush (pc := 859) (v := 6) dL_acts_859 rfl ?_
      refine G_icmp_ne (pc := 861) (tgt := 869) dL_acts_861 (by decide) (fun h861 => ?_) (fun h861 => ?_)
      · refine G_iload (pc := 869) 7 dL_acts_869 rfl ?_
        refine G_iconst (pc := 871) (v := 1) dL_acts_871 rfl ?_
        refine G_iadd (pc := 872) dL_acts_872 ?_
        rw [nI_1]
        refine G_icmp_ne (pc := 873) (tgt := 880) dL_acts_873 (by decide) (fun h873 => ?_) (fun h873 => ?_)
        · exact absurd (aTerm_y hu hg he h840 h849 (fun z => h861 (by rw [z]; rfl))) h873
        · refine G_iconst (pc := 876) (v := 1) dL_acts_876 rfl ?_
          refine G_goto (pc := 877) (tgt := 881) dL_acts_877 (by decide) ?_
          refine G_iret (pc := 881) dL_acts_881 ⟨_, rfl, rfl⟩ ⟨by decide, by decide⟩ ?_
          exact hQ r l i (aTerm S (nI u - 5) (nI g) (nI e)).2 tx ln (x_term hx) hX
      · refine G_ldc (pc := 864) dL_acts_864 kcL_66 ?_
        refine G_goto (pc := 866) (tgt := 873) dL_acts_866 (by decide) ?_
        refine G_icmp_ne (pc := 873) (tgt := 880) dL_acts_873 (by decide) (fun h873 => ?_) (fun h873 => ?_)
        · exact absurd (aTerm_6 hu hg he h840 h849 ((nI_eq (by omega) (by decide)).mp (show nI (tN S) = nI 6 from h861))) h873
        · refine G_iconst (pc := 876) (v := 1) dL_acts_876 rfl ?_
          refine G_goto (pc := 877) (tgt := 881) dL_acts_877 (by decide) ?_
          refine G_iret (pc := 881) dL_acts_881 ⟨_, rfl, rfl⟩ ⟨by decide, by decide⟩ ?_
          exact hQ r l i (aTerm S (nI u - 5) (nI g) (nI e)).2 tx ln (x_term hx) hX
    · refine G_ldc (pc := 852) dL_acts_852 kcL_65 ?_
      refine G_goto (pc := 854) (tgt := 873) dL_acts_854 (by decide) ?_
      refine G_icmp_ne (pc := 873) (tgt := 880) dL_acts_873 (by decide) (fun h873 => ?_) (fun h873 => ?_)
      · exact absurd (aTerm_b hu hg he (Or.inr h849)) h873
      · refine G_iconst (pc := 876) (v := 1) dL_acts_876 rfl ?_
        refine G_goto (pc := 877) (tgt := 881) dL_acts_877 (by decide) ?_
        refine G_iret (pc := 881) dL_acts_881 ⟨_, rfl, rfl⟩ ⟨by decide, by decide⟩ ?_
        exact hQ r l i (aTerm S (nI u - 5) (nI g) (nI e)).2 tx ln (x_term hx) hX

set_option maxRecDepth 100000 in
set_option maxHeartbeats 4000000 in
theorem t_acts_dropT {Γ : gG} {T : gTy} {r : gR} {l : gLg} {i : gI} {Q : gQ} {x n ln : Nat} {S : Nat → Int32} {P : Nat → Nat → Int32} {tx : Nat → Int32} {a : Nat} {v y t3 t6 : Int32} (hA : gN Γ ≤ x) (hX : lwX T r i x S P n tx ln) (hx : xS S) (hQ : ∀ r' l' i' o' tx' ln', xS (nxS S o') → lwX T r' i' x (nxS S o') (nxP n P S o') (nxN n o') tx' ln' → Q (some (.int 1)) T r' l' i') : G Γ ML_acts 0 0 896 [(0, .ref x), (1, .int v), (2, .int y), (3, .int t3), (4, .int (nI (nW S))), (5, .int (nI a)), (6, .int t6), (7, .int (nI (tN S)))] [] T r l i Q := by
  have hS := hX.v.1
  have ht6 := (vT_el hS.1).1
  refine G_iload_n (pc := 896) 2 dL_acts_896 rfl ?_
  refine G_iconst (pc := 897) (v := 1) dL_acts_897 rfl ?_
  refine G_ishr (pc := 898) dL_acts_898 ?_
  refine G_iload (pc := 899) 7 dL_acts_899 rfl ?_
  refine G_iconst (pc := 901) (v := 1) dL_acts_901 rfl ?_
  refine G_iadd (pc := 902) dL_acts_902 ?_
  rw [nI_1]
  refine gS2 (pc := 903) (k' := 0) (n' := 0) dL_acts_903 lkL_36 ⟨by decide, by decide⟩ (Nat.le_of_ble_eq_true rfl) rfl rfl ⟨by decide, by decide⟩ (c_L_low (m := tN S + 1) (by omega) (by omega) ?_)
  intro k hk
  dsimp only [gRt]
  by_cases hke : k = tN S
  · subst hke
    have eB := aDropT_e (S := S) ht6
    refine G_sn8 (pc := 906) (gSt_i dL_acts_906 (by decide)) rfl ?_
    refine G_aload_n (pc := 908) 0 dL_acts_908 rfl ?_
    refine G_iload (pc := 909) 8 dL_acts_909 rfl ?_
    refine G_iconst (pc := 911) (v := 0) dL_acts_911 rfl ?_
    refine gV2 (pc := 912) (k' := 0) (n' := 0) dL_acts_912 lkL_19 ⟨by decide, by decide⟩ (Nat.le_of_ble_eq_true rfl) rfl rfl ⟨by decide, by decide⟩ hX.k (q_termOf hA hX ?_)
    dsimp only [gRt]
    refine G_sn9 (pc := 915) (gSt_i dL_acts_915 (by decide)) rfl ?_
    refine G_aload_n (pc := 917) 0 dL_acts_917 rfl ?_
    refine G_iload (pc := 918) 8 dL_acts_918 rfl ?_
    refine gV1 (pc := 920) (k' := 0) (n' := 0) dL_acts_920 lkL_82 ⟨by decide, by decide⟩ (Nat.le_of_ble_eq_true rfl) rfl rfl ⟨by decide, by decide⟩ hX.k (q_dropTerm hA hX ?_)
    intro r l i hX
    dsimp only [gRt]
    rw [eB] at hX ⊢
    (try dsimp only at hX ⊢)
    refine G_iload (pc := 923) 8 dL_acts_923 rfl ?_
    refine G_iload (pc := 925) 7 dL_acts_925 rfl ?_
    refine G_icmp_ne (pc := 927) (tgt := 935) dL_acts_927 (by decide) (fun h927 => ?_) (fun h927 => ?_)
    · exact absurd rfl h927
    · refine G_ldc (pc := 930) dL_acts_930 kcL_61 ?_
      refine G_goto (pc := 932) (tgt := 937) dL_acts_932 (by decide) ?_
      refine G_icmp_ne (pc := 937) (tgt := 959) dL_acts_937 (by decide) (fun h937 => ?_) (fun h937 => ?_)
      · exact absurd rfl h937
      · refine G_iload (pc := 940) 8 dL_acts_940 rfl ?_
        refine G_iload (pc := 942) 7 dL_acts_942 rfl ?_
        refine G_icmp_eq (pc := 944) (tgt := 955) dL_acts_944 (by decide) (fun h944 => ?_) (fun h944 => ?_)
        · refine G_iconst (pc := 955) (v := 1) dL_acts_955 rfl ?_
          refine G_goto (pc := 956) (tgt := 960) dL_acts_956 (by decide) ?_
          refine G_iret (pc := 960) dL_acts_960 ⟨_, rfl, rfl⟩ ⟨by decide, by decide⟩ ?_
          exact hQ r l i none tx ln hx hX
        · exact absurd rfl h944
  · have hk2 : k < tN S := by omega
    have eB := aDropT_y (S := S) ht6 hk2
    have hxF : xS (nxS S (some (rmF S (tN S - 1) k))) := xS_0 (rmF_1 (S := S) (m := tN S - 1) (k := k))
    refine G_sn8 (pc := 906) (gSt_i dL_acts_906 (by decide)) rfl ?_
    refine G_aload_n (pc := 908) 0 dL_acts_908 rfl ?_
    refine G_iload (pc := 909) 8 dL_acts_909 rfl ?_
    refine G_iconst (pc := 911) (v := 0) dL_acts_911 rfl ?_
    refine gV2 (pc := 912) (k' := 0) (n' := 0) dL_acts_912 lkL_19 ⟨by decide, by decide⟩ (Nat.le_of_ble_eq_true rfl) rfl rfl ⟨by decide, by decide⟩ hX.k (q_termOf hA hX ?_)
    dsimp only [gRt]
    rw [aTermOf_0 ht6 hk2]
    refine G_sn9 (pc := 915) (gSt_i dL_acts_915 (by decide)) rfl ?_
    refine G_aload_n (pc := 917) 0 dL_acts_917 rfl ?_
    refine G_iload (pc := 918) 8 dL_acts_918 rfl ?_
    refine gV1 (pc := 920) (k' := 0) (n' := 0) dL_acts_920 lkL_82 ⟨by decide, by decide⟩ (Nat.le_of_ble_eq_true rfl) rfl rfl ⟨by decide, by decide⟩ hX.k (q_dropTerm hA hX ?_)
    intro r l i hX
    dsimp only [gRt]
    rw [eB] at hX ⊢
    replace hX : lwX T r i x (rmF S (tN S - 1) k) (nxP n P S (some (rmF S (tN S - 1) k))) (nxN n (some (rmF S (tN S - 1) k))) tx ln := hX
    dsimp only
    refine G_iload (pc := 923) 8 dL_acts_923 rfl ?_
    refine G_iload (pc := 925) 7 dL_acts_925 rfl ?_
    refine G_icmp_ne (pc := 927) (tgt := 935) dL_acts_927 (by decide) (fun h927 => ?_) (fun h927 => ?_)
    · refine G_iload (pc := 935) 9 dL_acts_935 rfl ?_
      refine G_icmp_ne (pc := 937) (tgt := 959) dL_acts_937 (by decide) (fun h937 => ?_) (fun h937 => ?_)
      · exact absurd rfl h937
      · refine G_iload (pc := 940) 8 dL_acts_940 rfl ?_
        refine G_iload (pc := 942) 7 dL_acts_942 rfl ?_
        refine G_icmp_eq (pc := 944) (tgt := 955) dL_acts_944 (by decide) (fun h944 => ?_) (fun h944 => ?_)
        · exact absurd ((nI_eq (by omega) (by omega)).mp h944) (by omega)
        · refine G_aload_n (pc := 947) 0 dL_acts_947 rfl ?_
          refine G_iconst (pc := 948) (v := 1) dL_acts_948 rfl ?_
          refine gV1 (pc := 949) (k' := 0) (n' := 0) dL_acts_949 lkL_13 ⟨by decide, by decide⟩ (Nat.le_of_ble_eq_true rfl) rfl rfl ⟨by decide, by decide⟩ hX.k (q_count hA hX ?_)
          dsimp only [gRt]
          rw [show aCount (rmF S (tN S - 1) k) (nxN n (some (rmF S (tN S - 1) k))) ln 1 = 0 from rmF_1 (S := S) (m := tN S - 1) (k := k)]
          refine G_if_ne (pc := 952) (tgt := 959) dL_acts_952 (by decide) (fun h952 => ?_) (fun h952 => ?_)
          · exact absurd rfl h952
          · refine G_iconst (pc := 955) (v := 1) dL_acts_955 rfl ?_
            refine G_goto (pc := 956) (tgt := 960) dL_acts_956 (by decide) ?_
            refine G_iret (pc := 960) dL_acts_960 ⟨_, rfl, rfl⟩ ⟨by decide, by decide⟩ ?_
            exact hQ r l i (some (rmF S (tN S - 1) k)) tx ln hxF hX
    · exact absurd ((nI_eq (by omega) (by omega)).mp h927) (by omega)

set_option maxRecDepth 100000 in
set_option maxHeartbeats 4000000 in
theorem t_acts_text {Γ : gG} {T : gTy} {r : gR} {l : gLg} {i : gI} {Q : gQ} {x n ln : Nat} {S : Nat → Int32} {P : Nat → Nat → Int32} {tx : Nat → Int32} {a : Nat} {v y t3 t6 : Int32} (hA : gN Γ ≤ x) (hX : lwX T r i x S P n tx ln) (hx : xS S) (hQ : ∀ r' l' i' o' tx' ln', xS (nxS S o') → lwX T r' i' x (nxS S o') (nxP n P S o') (nxN n o') tx' ln' → Q (some (.int 1)) T r' l' i') : G Γ ML_acts 0 0 961 [(0, .ref x), (1, .int v), (2, .int y), (3, .int t3), (4, .int (nI (nW S))), (5, .int (nI a)), (6, .int t6), (7, .int (nI (tN S)))] [] T r l i Q := by
  refine G_iload_n (pc := 961) 3 dL_acts_961 rfl ?_
  refine G_bipush (pc := 962) (v := 18) dL_acts_962 rfl ?_
  refine G_icmp_lt (pc := 964) (tgt := 994) dL_acts_964 (by decide) (fun h964 => ?_) (fun h964 => ?_)
  · refine G_iconst (pc := 994) (v := 1) dL_acts_994 rfl ?_
    refine G_goto (pc := 995) (tgt := 999) dL_acts_995 (by decide) ?_
    refine G_iret (pc := 999) dL_acts_999 ⟨_, rfl, rfl⟩ ⟨by decide, by decide⟩ ?_
    exact hQ r l i none tx ln hx hX
  · refine G_iload_n (pc := 967) 2 dL_acts_967 rfl ?_
    refine G_iconst (pc := 968) (v := 5) dL_acts_968 rfl ?_
    refine G_ishr (pc := 969) dL_acts_969 ?_
    refine G_iconst (pc := 970) (v := 3) dL_acts_970 rfl ?_
    refine gS2 (pc := 971) (k' := 0) (n' := 0) dL_acts_971 lkL_36 ⟨by decide, by decide⟩ (Nat.le_of_ble_eq_true rfl) rfl rfl ⟨by decide, by decide⟩ (c_L_low (m := 3) (by decide) (by decide) ?_)
    intro u hu
    dsimp only [gRt]
    refine G_if_gt (pc := 974) (tgt := 994) dL_acts_974 (by decide) (fun h974 => ?_) (fun h974 => ?_)
    · refine G_iconst (pc := 994) (v := 1) dL_acts_994 rfl ?_
      refine G_goto (pc := 995) (tgt := 999) dL_acts_995 (by decide) ?_
      refine G_iret (pc := 999) dL_acts_999 ⟨_, rfl, rfl⟩ ⟨by decide, by decide⟩ ?_
      exact hQ r l i none tx ln hx hX
    · refine G_aload_n (pc := 977) 0 dL_acts_977 rfl ?_
      refine G_iload_n (pc := 978) 2 dL_acts_978 rfl ?_
      refine G_iconst (pc := 979) (v := 2) dL_acts_979 rfl ?_
      refine G_ishr (pc := 980) dL_acts_980 ?_
      refine gS2 (pc := 981) (k' := 0) (n' := 0) dL_acts_981 lkL_85 ⟨by decide, by decide⟩ (Nat.le_of_ble_eq_true rfl) rfl rfl ⟨by decide, by decide⟩ (c_L_types hA hX ?_)
      intro i tx ln hl hX
      dsimp only [gRt]
      refine G_if_eq (pc := 984) (tgt := 998) dL_acts_984 (by decide) (fun h984 => ?_) (fun h984 => ?_)
      · exact absurd h984 (by decide)
      · refine G_aload_n (pc := 987) 0 dL_acts_987 rfl ?_
        refine gS1 (pc := 988) (k' := 0) (n' := 0) dL_acts_988 lkL_89 ⟨by decide, by decide⟩ (Nat.le_of_ble_eq_true rfl) rfl rfl ⟨by decide, by decide⟩ (c_L_reads hA hX ?_)
        intro r l i hX
        dsimp only [gRt]
        refine G_if_eq (pc := 991) (tgt := 998) dL_acts_991 (by decide) (fun h991 => ?_) (fun h991 => ?_)
        · exact absurd h991 (by decide)
        · refine G_iconst (pc := 994) (v := 1) dL_acts_994 rfl ?_
          refine G_goto (pc := 995) (tgt := 999) dL_acts_995 (by decide) ?_
          refine G_iret (pc := 999) dL_acts_999 ⟨_, rfl, rfl⟩ ⟨by decide, by decide⟩ ?_
          exact hQ r l i (aRead tx ln S).2 tx ln (x_read hx) hX

set_option maxRecDepth 100000 in
set_option maxHeartbeats 4000000 in
theorem t_acts_terms {Γ : gG} {T : gTy} {r : gR} {l : gLg} {i : gI} {Q : gQ} {x n ln : Nat} {S : Nat → Int32} {P : Nat → Nat → Int32} {tx : Nat → Int32} {a : Nat} {v y t3 t6 : Int32} (hA : gN Γ ≤ x) (hX : lwX T r i x S P n tx ln) (hx : xS S) (hQ : ∀ r' l' i' o' tx' ln', xS (nxS S o') → lwX T r' i' x (nxS S o') (nxP n P S o') (nxN n o') tx' ln' → Q (some (.int 1)) T r' l' i') : G Γ ML_acts 0 0 786 [(0, .ref x), (1, .int v), (2, .int y), (3, .int t3), (4, .int (nI (nW S))), (5, .int (nI a)), (6, .int t6)] [] T r l i Q := by
  have hS := hX.v.1
  refine G_aload_n (pc := 786) 0 dL_acts_786 rfl ?_
  refine G_iconst (pc := 787) (v := 0) dL_acts_787 rfl ?_
  refine gV1 (pc := 788) (k' := 0) (n' := 0) dL_acts_788 lkL_13 ⟨by decide, by decide⟩ (Nat.le_of_ble_eq_true rfl) rfl rfl ⟨by decide, by decide⟩ hX.k (q_count hA hX ?_)
  dsimp only [gRt]
  rw [aCount_t hS]
  refine G_sn7 (pc := 791) (gSt_i dL_acts_791 (by decide)) rfl ?_
  refine G_iload_n (pc := 793) 3 dL_acts_793 rfl ?_
  refine G_bipush (pc := 794) (v := 16) dL_acts_794 rfl ?_
  refine G_icmp_ne (pc := 796) (tgt := 882) dL_acts_796 (by decide) (fun h796 => ?_) (fun h796 => ?_)
  · refine G_iload_n (pc := 882) 3 dL_acts_882 rfl ?_
    refine G_bipush (pc := 883) (v := 17) dL_acts_883 rfl ?_
    refine G_icmp_ne (pc := 885) (tgt := 961) dL_acts_885 (by decide) (fun h885 => ?_) (fun h885 => ?_)
    · exact t_acts_text hA hX hx hQ
    · refine G_iload_n (pc := 888) 2 dL_acts_888 rfl ?_
      refine G_iconst (pc := 889) (v := 2) dL_acts_889 rfl ?_
      refine gS2 (pc := 890) (k' := 0) (n' := 0) dL_acts_890 lkL_36 ⟨by decide, by decide⟩ (Nat.le_of_ble_eq_true rfl) rfl rfl ⟨by decide, by decide⟩ (c_L_low (m := 2) (by decide) (by decide) ?_)
      intro u hu
      dsimp only [gRt]
      refine G_if_ne (pc := 893) (tgt := 961) dL_acts_893 (by decide) (fun h893 => ?_) (fun h893 => ?_)
      · exact t_acts_text hA hX hx hQ
      · exact t_acts_dropT hA hX hx hQ
  · exact t_acts_term hA hX hx hQ

set_option maxRecDepth 100000 in
set_option maxHeartbeats 4000000 in
theorem c_L_acts {Γ : gG} {T : gTy} {r : gR} {l : gLg} {i : gI} {Q : gQ} {x n ln : Nat} {S : Nat → Int32} {P : Nat → Nat → Int32} {tx : Nat → Int32} {v y : Int32} (hA : gN Γ ≤ x) (hX : lwX T r i x S P n tx ln) (hx : xS S) (hQ : ∀ r' l' i' o' tx' ln', xS (nxS S o') → lwX T r' i' x (nxS S o') (nxP n P S o') (nxN n o') tx' ln' → Q (some (.int 1)) T r' l' i') : gC Γ ML_acts [.ref x, .int v, .int y] T r l i Q := by
  have hS := hX.v.1
  have hn5 := (nW_of hS).1
  refine gC_of rfl (Nat.le_of_ble_eq_true rfl) (L := [(0, .ref x), (1, .int v), (2, .int y)]) rfl ?_
  refine G_iload_n (pc := 0) 1 dL_acts_0 rfl ?_
  refine G_bipush (pc := 1) (v := 20) dL_acts_1 rfl ?_
  refine gS2 (pc := 3) (k' := 0) (n' := 0) dL_acts_3 lkL_36 ⟨by decide, by decide⟩ (Nat.le_of_ble_eq_true rfl) rfl rfl ⟨by decide, by decide⟩ (c_L_low (m := 20) (by decide) (by decide) ?_)
  intro u hu
  dsimp only [gRt]
  refine G_sn3 (pc := 6) (gSt_in dL_acts_6 rfl (by decide)) rfl ?_
  refine G_aload_n (pc := 7) 0 dL_acts_7 rfl ?_
  refine G_iconst (pc := 8) (v := 1) dL_acts_8 rfl ?_
  refine gV1 (pc := 9) (k' := 0) (n' := 0) dL_acts_9 lkL_13 ⟨by decide, by decide⟩ (Nat.le_of_ble_eq_true rfl) rfl rfl ⟨by decide, by decide⟩ hX.k (q_count hA hX ?_)
  dsimp only [gRt]
  rw [aCount_1 hS]
  refine G_sn4 (pc := 12) (gSt_i dL_acts_12 (by decide)) rfl ?_
  refine G_iload_n (pc := 14) 1 dL_acts_14 rfl ?_
  refine G_iconst (pc := 15) (v := 5) dL_acts_15 rfl ?_
  refine G_ishr (pc := 16) dL_acts_16 ?_
  refine G_iload (pc := 17) 4 dL_acts_17 rfl ?_
  refine G_iconst (pc := 19) (v := 1) dL_acts_19 rfl ?_
  refine G_iadd (pc := 20) dL_acts_20 ?_
  rw [nI_1]
  refine gS2 (pc := 21) (k' := 0) (n' := 0) dL_acts_21 lkL_36 ⟨by decide, by decide⟩ (Nat.le_of_ble_eq_true rfl) rfl rfl ⟨by decide, by decide⟩ (c_L_low (m := nW S + 1) (by omega) (by omega) ?_)
  intro a ha
  dsimp only [gRt]
  refine G_sn5 (pc := 24) (gSt_i dL_acts_24 (by decide)) rfl ?_
  by_cases haw : a < nW S
  · refine G_iload (pc := 26) 5 dL_acts_26 rfl ?_
    refine G_iload (pc := 28) 4 dL_acts_28 rfl ?_
    refine G_icmp_ge (pc := 30) (tgt := 37) dL_acts_30 (by decide) (fun h30 => ?_) (fun h30 => ?_)
    · exact absurd h30 (nI_ge haw (by omega))
    · refine G_iconst (pc := 33) (v := 1) dL_acts_33 rfl ?_
      refine G_goto (pc := 34) (tgt := 38) dL_acts_34 (by decide) ?_
      refine G_sn6 (pc := 38) (gSt_i dL_acts_38 (by decide)) rfl ?_
      refine G_iload_n (pc := 40) 3 dL_acts_40 rfl ?_
      refine G_iconst (pc := 41) (v := 5) dL_acts_41 rfl ?_
      refine G_icmp_ge (pc := 42) (tgt := 232) dL_acts_42 (by decide) (fun h42 => ?_) (fun h42 => ?_)
      · refine G_iload_n (pc := 232) 3 dL_acts_232 rfl ?_
        refine G_bipush (pc := 233) (v := 12) dL_acts_233 rfl ?_
        refine G_icmp_ge (pc := 235) (tgt := 417) dL_acts_235 (by decide) (fun h235 => ?_) (fun h235 => ?_)
        · refine G_iload_n (pc := 417) 3 dL_acts_417 rfl ?_
          refine G_bipush (pc := 418) (v := 14) dL_acts_418 rfl ?_
          refine G_icmp_ge (pc := 420) (tgt := 611) dL_acts_420 (by decide) (fun h420 => ?_) (fun h420 => ?_)
          · refine G_iload_n (pc := 611) 3 dL_acts_611 rfl ?_
            refine G_bipush (pc := 612) (v := 14) dL_acts_612 rfl ?_
            refine G_icmp_ne (pc := 614) (tgt := 676) dL_acts_614 (by decide) (fun h614 => ?_) (fun h614 => ?_)
            · refine G_iload_n (pc := 676) 3 dL_acts_676 rfl ?_
              refine G_bipush (pc := 677) (v := 15) dL_acts_677 rfl ?_
              refine G_icmp_ne (pc := 679) (tgt := 786) dL_acts_679 (by decide) (fun h679 => ?_) (fun h679 => ?_)
              · exact t_acts_terms hA hX hx hQ
              · exact t_acts_set hA hX hx hQ
            · exact t_acts_drop hA hX hx hQ (Or.inl ⟨haw, rfl⟩)
          · exact t_acts_branch hA hX hx hQ (Or.inl ⟨haw, rfl⟩)
        · exact t_acts_step hA hX hx hQ (Or.inl ⟨haw, rfl⟩)
      · exact t_acts_begin hA hX hx hQ
  · obtain rfl : a = nW S := by omega
    refine G_iload (pc := 26) 5 dL_acts_26 rfl ?_
    refine G_iload (pc := 28) 4 dL_acts_28 rfl ?_
    refine G_icmp_ge (pc := 30) (tgt := 37) dL_acts_30 (by decide) (fun h30 => ?_) (fun h30 => ?_)
    · refine G_iconst (pc := 37) (v := 0) dL_acts_37 rfl ?_
      refine G_sn6 (pc := 38) (gSt_i dL_acts_38 (by decide)) rfl ?_
      refine G_iload_n (pc := 40) 3 dL_acts_40 rfl ?_
      refine G_iconst (pc := 41) (v := 5) dL_acts_41 rfl ?_
      refine G_icmp_ge (pc := 42) (tgt := 232) dL_acts_42 (by decide) (fun h42 => ?_) (fun h42 => ?_)
      · refine G_iload_n (pc := 232) 3 dL_acts_232 rfl ?_
        refine G_bipush (pc := 233) (v := 12) dL_acts_233 rfl ?_
        refine G_icmp_ge (pc := 235) (tgt := 417) dL_acts_235 (by decide) (fun h235 => ?_) (fun h235 => ?_)
        · refine G_iload_n (pc := 417) 3 dL_acts_417 rfl ?_
          refine G_bipush (pc := 418) (v := 14) dL_acts_418 rfl ?_
          refine G_icmp_ge (pc := 420) (tgt := 611) dL_acts_420 (by decide) (fun h420 => ?_) (fun h420 => ?_)
          · refine G_iload_n (pc := 611) 3 dL_acts_611 rfl ?_
            refine G_bipush (pc := 612) (v := 14) dL_acts_612 rfl ?_
            refine G_icmp_ne (pc := 614) (tgt := 676) dL_acts_614 (by decide) (fun h614 => ?_) (fun h614 => ?_)
            · refine G_iload_n (pc := 676) 3 dL_acts_676 rfl ?_
              refine G_bipush (pc := 677) (v := 15) dL_acts_677 rfl ?_
              refine G_icmp_ne (pc := 679) (tgt := 786) dL_acts_679 (by decide) (fun h679 => ?_) (fun h679 => ?_)
              · exact t_acts_terms hA hX hx hQ
              · exact t_acts_set hA hX hx hQ
            · exact t_acts_drop hA hX hx hQ (Or.inr ⟨rfl, rfl⟩)
          · exact t_acts_branch hA hX hx hQ (Or.inr ⟨rfl, rfl⟩)
        · exact t_acts_step hA hX hx hQ (Or.inr ⟨rfl, rfl⟩)
      · exact t_acts_begin hA hX hx hQ
    · exact absurd (Int32.le_refl _) h30

