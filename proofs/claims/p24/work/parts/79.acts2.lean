/-! the law: acts: branch, drop -/
set_option maxRecDepth 100000 in
set_option maxHeartbeats 4000000 in
theorem t_acts_branch {Γ : gG} {T : gTy} {r : gR} {l : gLg} {i : gI} {Q : gQ} {x n ln : Nat} {S : Nat → Int32} {P : Nat → Nat → Int32} {tx : Nat → Int32} {a : Nat} {v y t3 t6 : Int32} (hA : gN Γ ≤ x) (hX : lwX T r i x S P n tx ln) (hx : xS S) (hQ : ∀ r' l' i' o' tx' ln', xS (nxS S o') → lwX T r' i' x (nxS S o') (nxP n P S o') (nxN n o') tx' ln' → Q (some (.int 1)) T r' l' i') (ht : (a < nW S ∧ t6 = 1) ∨ (a = nW S ∧ t6 = 0)) : G Γ ML_acts 0 0 423 [(0, .ref x), (1, .int v), (2, .int y), (3, .int t3), (4, .int (nI (nW S))), (5, .int (nI a)), (6, .int t6)] [] T r l i Q := by
  have hS := hX.v.1
  have hn5 := (nW_of hS).1
  rcases ht with ⟨ha, rfl⟩ | ⟨rfl, rfl⟩
  · have h40 := (sz40 hS ha).2
    refine G_iload (pc := 423) 6 dL_acts_423 rfl ?_
    refine G_if_eq (pc := 425) (tgt := 438) dL_acts_425 (by decide) (fun h425 => ?_) (fun h425 => ?_)
    · exact absurd h425 (by decide)
    · refine G_aload_n (pc := 428) 0 dL_acts_428 rfl ?_
      refine G_iload (pc := 429) 5 dL_acts_429 rfl ?_
      refine G_iconst (pc := 431) (v := 0) dL_acts_431 rfl ?_
      refine gV2 (pc := 432) (k' := 0) (n' := 0) dL_acts_432 lkL_23 ⟨by decide, by decide⟩ (Nat.le_of_ble_eq_true rfl) rfl rfl ⟨by decide, by decide⟩ hX.k (q_walkOf hA hX ?_)
      intro i hX
      dsimp only [gRt]
      rw [w0_of hS ha]
      refine G_goto (pc := 435) (tgt := 439) dL_acts_435 (by decide) ?_
      refine G_sn7 (pc := 439) (gSt_i dL_acts_439 (by decide)) rfl ?_
      refine G_iload_n (pc := 441) 2 dL_acts_441 rfl ?_
      refine G_iload (pc := 442) 7 dL_acts_442 rfl ?_
      refine G_iconst (pc := 444) (v := 1) dL_acts_444 rfl ?_
      refine G_iadd (pc := 445) dL_acts_445 ?_
      rw [nI_1]
      refine gS2 (pc := 446) (k' := 0) (n' := 0) dL_acts_446 lkL_36 ⟨by decide, by decide⟩ (Nat.le_of_ble_eq_true rfl) rfl rfl ⟨by decide, by decide⟩ (c_L_low (m := szW S (23 + 166 * a) + 1) (by omega) (by omega) ?_)
      intro k hk
      dsimp only [gRt]
      by_cases hke : k = szW S (23 + 166 * a)
      · subst hke
        refine G_sn8 (pc := 449) (gSt_i dL_acts_449 (by decide)) rfl ?_
        refine G_iload (pc := 451) 6 dL_acts_451 rfl ?_
        refine G_if_eq (pc := 453) (tgt := 475) dL_acts_453 (by decide) (fun h453 => ?_) (fun h453 => ?_)
        · exact absurd h453 (by decide)
        · refine G_iload (pc := 456) 8 dL_acts_456 rfl ?_
          refine G_iload (pc := 458) 7 dL_acts_458 rfl ?_
          refine G_icmp_ge (pc := 460) (tgt := 475) dL_acts_460 (by decide) (fun h460 => ?_) (fun h460 => ?_)
          · refine G_iconst (pc := 475) (v := 0) dL_acts_475 rfl ?_
            refine G_sn9 (pc := 476) (gSt_i dL_acts_476 (by decide)) rfl ?_
            refine G_aload_n (pc := 478) 0 dL_acts_478 rfl ?_
            refine G_iload (pc := 479) 5 dL_acts_479 rfl ?_
            refine G_iload (pc := 481) 8 dL_acts_481 rfl ?_
            refine G_iload_n (pc := 483) 2 dL_acts_483 rfl ?_
            refine G_bipush (pc := 484) (v := 6) dL_acts_484 rfl ?_
            refine G_ishr (pc := 486) dL_acts_486 ?_
            refine G_iconst (pc := 487) (v := 2) dL_acts_487 rfl ?_
            refine gS2 (pc := 488) (k' := 0) (n' := 0) dL_acts_488 lkL_36 ⟨by decide, by decide⟩ (Nat.le_of_ble_eq_true rfl) rfl rfl ⟨by decide, by decide⟩ (c_L_low (m := 2) (by decide) (by decide) ?_)
            intro u hu
            dsimp only [gRt]
            refine G_diaN (pc := 491) (va := 1) (vb := (-1)) (fun kt kf => G_if_ne (pc := 491) (tgt := 498) dL_acts_491 (by decide) kt kf) dL_acts_494 rfl dL_acts_495 (by decide) dL_acts_498 rfl rfl ?_
            have hsd : (if nI u = 0 then (1 : Int32) else -1) = 1 ∨ (if nI u = 0 then (1 : Int32) else -1) = -1 := by split <;> simp
            generalize (if nI u = 0 then (1 : Int32) else -1) = sd at hsd ⊢
            have eB := aBranch_k (sd := sd) hS ha
            refine gV3 (pc := 499) (k' := 0) (n' := 0) dL_acts_499 lkL_70 ⟨by decide, by decide⟩ (Nat.le_of_ble_eq_true rfl) rfl rfl ⟨by decide, by decide⟩ hX.k (q_branch hA hX ?_)
            intro r l i hX
            dsimp only [gRt]
            rw [eB] at hX ⊢
            (try dsimp only at hX ⊢)
            refine G_sn10 (pc := 502) (gSt_i dL_acts_502 (by decide)) rfl ?_
            refine G_iload (pc := 504) 6 dL_acts_504 rfl ?_
            refine G_if_eq (pc := 506) (tgt := 516) dL_acts_506 (by decide) (fun h506 => ?_) (fun h506 => ?_)
            · exact absurd h506 (by decide)
            · refine G_iload (pc := 509) 8 dL_acts_509 rfl ?_
              refine G_iload (pc := 511) 7 dL_acts_511 rfl ?_
              refine G_icmp_ne (pc := 513) (tgt := 531) dL_acts_513 (by decide) (fun h513 => ?_) (fun h513 => ?_)
              · exact absurd rfl h513
              · refine G_iload (pc := 516) 10 dL_acts_516 rfl ?_
                refine G_ldc (pc := 518) dL_acts_518 kcL_65 ?_
                refine G_icmp_ne (pc := 520) (tgt := 527) dL_acts_520 (by decide) (fun h520 => ?_) (fun h520 => ?_)
                · exact absurd rfl h520
                · refine G_iconst (pc := 523) (v := 1) dL_acts_523 rfl ?_
                  refine G_goto (pc := 524) (tgt := 610) dL_acts_524 (by decide) ?_
                  refine G_iret (pc := 610) dL_acts_610 ⟨_, rfl, rfl⟩ ⟨by decide, by decide⟩ ?_
                  exact hQ r l i none tx ln hx hX
          · exact absurd (Int32.le_refl _) h460
      · have hk2 : k < szW S (23 + 166 * a) := by omega
        refine G_sn8 (pc := 449) (gSt_i dL_acts_449 (by decide)) rfl ?_
        refine G_iload (pc := 451) 6 dL_acts_451 rfl ?_
        refine G_if_eq (pc := 453) (tgt := 475) dL_acts_453 (by decide) (fun h453 => ?_) (fun h453 => ?_)
        · exact absurd h453 (by decide)
        · refine G_iload (pc := 456) 8 dL_acts_456 rfl ?_
          refine G_iload (pc := 458) 7 dL_acts_458 rfl ?_
          refine G_icmp_ge (pc := 460) (tgt := 475) dL_acts_460 (by decide) (fun h460 => ?_) (fun h460 => ?_)
          · exact absurd h460 (nI_ge hk2 (by omega))
          · refine G_aload_n (pc := 463) 0 dL_acts_463 rfl ?_
            refine G_iload (pc := 464) 5 dL_acts_464 rfl ?_
            refine G_iload (pc := 466) 8 dL_acts_466 rfl ?_
            refine G_iconst (pc := 468) (v := 3) dL_acts_468 rfl ?_
            refine gV3 (pc := 469) (k' := 0) (n' := 0) dL_acts_469 lkL_28 ⟨by decide, by decide⟩ (Nat.le_of_ble_eq_true rfl) rfl rfl ⟨by decide, by decide⟩ hX.k (q_placeOf hA hX ?_)
            dsimp only [gRt]
            rw [show aPlaceOf S (nI a) (nI k) 3 = (S (23 + 166 * a + 6 + 4 * k + 3)) from aPlaceOf_at hS ha hk2 (c := 3) (by decide)]
            refine G_goto (pc := 472) (tgt := 476) dL_acts_472 (by decide) ?_
            refine G_sn9 (pc := 476) (gSt_i dL_acts_476 (by decide)) rfl ?_
            refine G_aload_n (pc := 478) 0 dL_acts_478 rfl ?_
            refine G_iload (pc := 479) 5 dL_acts_479 rfl ?_
            refine G_iload (pc := 481) 8 dL_acts_481 rfl ?_
            refine G_iload_n (pc := 483) 2 dL_acts_483 rfl ?_
            refine G_bipush (pc := 484) (v := 6) dL_acts_484 rfl ?_
            refine G_ishr (pc := 486) dL_acts_486 ?_
            refine G_iconst (pc := 487) (v := 2) dL_acts_487 rfl ?_
            refine gS2 (pc := 488) (k' := 0) (n' := 0) dL_acts_488 lkL_36 ⟨by decide, by decide⟩ (Nat.le_of_ble_eq_true rfl) rfl rfl ⟨by decide, by decide⟩ (c_L_low (m := 2) (by decide) (by decide) ?_)
            intro u hu
            dsimp only [gRt]
            refine G_diaN (pc := 491) (va := 1) (vb := (-1)) (fun kt kf => G_if_ne (pc := 491) (tgt := 498) dL_acts_491 (by decide) kt kf) dL_acts_494 rfl dL_acts_495 (by decide) dL_acts_498 rfl rfl ?_
            have hsd : (if nI u = 0 then (1 : Int32) else -1) = 1 ∨ (if nI u = 0 then (1 : Int32) else -1) = -1 := by split <;> simp
            generalize (if nI u = 0 then (1 : Int32) else -1) = sd at hsd ⊢
            have eI := aBranch_in (k := k) (sd := sd) hS ha hk2 hsd
            by_cases h2 : (S (23 + 166 * a + 6 + 4 * k + 3)) = 2
            · rw [if_pos h2] at eI
              cases hc : brC S (23 + 166 * a) (k - 1) sd with
              | none =>
                have eB : aBranch S (nI a) (nI k) sd = (-1000002, none) := by rw [eI, hc]; rfl
                refine gV3 (pc := 499) (k' := 0) (n' := 0) dL_acts_499 lkL_70 ⟨by decide, by decide⟩ (Nat.le_of_ble_eq_true rfl) rfl rfl ⟨by decide, by decide⟩ hX.k (q_branch hA hX ?_)
                intro r l i hX
                dsimp only [gRt]
                rw [eB] at hX ⊢
                (try dsimp only at hX ⊢)
                refine G_sn10 (pc := 502) (gSt_i dL_acts_502 (by decide)) rfl ?_
                refine G_iload (pc := 504) 6 dL_acts_504 rfl ?_
                refine G_if_eq (pc := 506) (tgt := 516) dL_acts_506 (by decide) (fun h506 => ?_) (fun h506 => ?_)
                · exact absurd h506 (by decide)
                · refine G_iload (pc := 509) 8 dL_acts_509 rfl ?_
                  refine G_iload (pc := 511) 7 dL_acts_511 rfl ?_
                  refine G_icmp_ne (pc := 513) (tgt := 531) dL_acts_513 (by decide) (fun h513 => ?_) (fun h513 => ?_)
                  · refine G_iload (pc := 531) 9 dL_acts_531 rfl ?_
                    refine G_iconst (pc := 533) (v := 2) dL_acts_533 rfl ?_
                    refine G_icmp_eq (pc := 534) (tgt := 552) dL_acts_534 (by decide) (fun h534 => ?_) (fun h534 => ?_)
                    · refine G_iload (pc := 552) 10 dL_acts_552 rfl ?_
                      refine G_ldc (pc := 554) dL_acts_554 kcL_61 ?_
                      refine G_icmp_eq (pc := 556) (tgt := 605) dL_acts_556 (by decide) (fun h556 => ?_) (fun h556 => ?_)
                      · refine G_iconst (pc := 605) (v := 1) dL_acts_605 rfl ?_
                        refine G_goto (pc := 606) (tgt := 610) dL_acts_606 (by decide) ?_
                        refine G_iret (pc := 610) dL_acts_610 ⟨_, rfl, rfl⟩ ⟨by decide, by decide⟩ ?_
                        exact hQ r l i none tx ln hx hX
                      · exact absurd rfl h556
                    · exact absurd h2 h534
                  · exact absurd ((nI_eq (by omega) (by omega)).mp h513) (by omega)
              | some c =>
                rw [hc, aBrn_some (by omega)] at eI
                by_cases h5 : nW S = 5
                · rw [if_pos h5] at eI
                  have eB := eI
                  refine gV3 (pc := 499) (k' := 0) (n' := 0) dL_acts_499 lkL_70 ⟨by decide, by decide⟩ (Nat.le_of_ble_eq_true rfl) rfl rfl ⟨by decide, by decide⟩ hX.k (q_branch hA hX ?_)
                  intro r l i hX
                  dsimp only [gRt]
                  rw [eB] at hX ⊢
                  (try dsimp only at hX ⊢)
                  refine G_sn10 (pc := 502) (gSt_i dL_acts_502 (by decide)) rfl ?_
                  refine G_iload (pc := 504) 6 dL_acts_504 rfl ?_
                  refine G_if_eq (pc := 506) (tgt := 516) dL_acts_506 (by decide) (fun h506 => ?_) (fun h506 => ?_)
                  · exact absurd h506 (by decide)
                  · refine G_iload (pc := 509) 8 dL_acts_509 rfl ?_
                    refine G_iload (pc := 511) 7 dL_acts_511 rfl ?_
                    refine G_icmp_ne (pc := 513) (tgt := 531) dL_acts_513 (by decide) (fun h513 => ?_) (fun h513 => ?_)
                    · refine G_iload (pc := 531) 9 dL_acts_531 rfl ?_
                      refine G_iconst (pc := 533) (v := 2) dL_acts_533 rfl ?_
                      refine G_icmp_eq (pc := 534) (tgt := 552) dL_acts_534 (by decide) (fun h534 => ?_) (fun h534 => ?_)
                      · refine G_iload (pc := 552) 10 dL_acts_552 rfl ?_
                        refine G_ldc (pc := 554) dL_acts_554 kcL_61 ?_
                        refine G_icmp_eq (pc := 556) (tgt := 605) dL_acts_556 (by decide) (fun h556 => ?_) (fun h556 => ?_)
                        · exact absurd h556 (by decide)
                        · refine G_iload (pc := 559) 10 dL_acts_559 rfl ?_
                          refine G_ldc (pc := 561) dL_acts_561 kcL_66 ?_
                          refine G_icmp_ne (pc := 563) (tgt := 572) dL_acts_563 (by decide) (fun h563 => ?_) (fun h563 => ?_)
                          · exact absurd rfl h563
                          · refine G_iload (pc := 566) 4 dL_acts_566 rfl ?_
                            refine G_iconst (pc := 568) (v := 5) dL_acts_568 rfl ?_
                            refine G_icmp_eq (pc := 569) (tgt := 605) dL_acts_569 (by decide) (fun h569 => ?_) (fun h569 => ?_)
                            · refine G_iconst (pc := 605) (v := 1) dL_acts_605 rfl ?_
                              refine G_goto (pc := 606) (tgt := 610) dL_acts_606 (by decide) ?_
                              refine G_iret (pc := 610) dL_acts_610 ⟨_, rfl, rfl⟩ ⟨by decide, by decide⟩ ?_
                              exact hQ r l i none tx ln hx hX
                            · exact absurd (by rw [h5]; rfl) h569
                      · exact absurd h2 h534
                    · exact absurd ((nI_eq (by omega) (by omega)).mp h513) (by omega)
                · rw [if_neg h5] at eI
                  have eB := eI
                  have hlt : nW S < 5 := by omega
                  have hxF : xS (nxS S (some (oF S (nW S) (brS S (23 + 166 * a) (k - 1) sd c) (nI a) (nI k) c))) := by
                    have z := x_branch (w := nI a) (p := nI k) (sd := sd) hx hS
                    rw [eB] at z
                    exact z
                  refine gV3 (pc := 499) (k' := 0) (n' := 0) dL_acts_499 lkL_70 ⟨by decide, by decide⟩ (Nat.le_of_ble_eq_true rfl) rfl rfl ⟨by decide, by decide⟩ hX.k (q_branch hA hX ?_)
                  intro r l i hX
                  dsimp only [gRt]
                  rw [eB] at hX ⊢
                  replace hX : lwX T r i x (oF S (nW S) (brS S (23 + 166 * a) (k - 1) sd c) (nI a) (nI k) c) (nxP n P S (some (oF S (nW S) (brS S (23 + 166 * a) (k - 1) sd c) (nI a) (nI k) c))) (nxN n (some (oF S (nW S) (brS S (23 + 166 * a) (k - 1) sd c) (nI a) (nI k) c))) tx ln := hX
                  dsimp only
                  obtain ⟨_, _, _, t3⟩ := op_told hlt hX.v.1
                  obtain ⟨t6, t7⟩ := t3 (nI_pos (by omega))
                  refine G_sn10 (pc := 502) (gSt_i dL_acts_502 (by decide)) rfl ?_
                  refine G_iload (pc := 504) 6 dL_acts_504 rfl ?_
                  refine G_if_eq (pc := 506) (tgt := 516) dL_acts_506 (by decide) (fun h506 => ?_) (fun h506 => ?_)
                  · exact absurd h506 (by decide)
                  · refine G_iload (pc := 509) 8 dL_acts_509 rfl ?_
                    refine G_iload (pc := 511) 7 dL_acts_511 rfl ?_
                    refine G_icmp_ne (pc := 513) (tgt := 531) dL_acts_513 (by decide) (fun h513 => ?_) (fun h513 => ?_)
                    · refine G_iload (pc := 531) 9 dL_acts_531 rfl ?_
                      refine G_iconst (pc := 533) (v := 2) dL_acts_533 rfl ?_
                      refine G_icmp_eq (pc := 534) (tgt := 552) dL_acts_534 (by decide) (fun h534 => ?_) (fun h534 => ?_)
                      · refine G_iload (pc := 552) 10 dL_acts_552 rfl ?_
                        refine G_ldc (pc := 554) dL_acts_554 kcL_61 ?_
                        refine G_icmp_eq (pc := 556) (tgt := 605) dL_acts_556 (by decide) (fun h556 => ?_) (fun h556 => ?_)
                        · exact absurd (show nI (nW S) < 0 by rw [h556]; decide) (nI_pos (by omega))
                        · refine G_iload (pc := 559) 10 dL_acts_559 rfl ?_
                          refine G_ldc (pc := 561) dL_acts_561 kcL_66 ?_
                          refine G_icmp_ne (pc := 563) (tgt := 572) dL_acts_563 (by decide) (fun h563 => ?_) (fun h563 => ?_)
                          · refine G_iload (pc := 572) 10 dL_acts_572 rfl ?_
                            refine G_iload (pc := 574) 4 dL_acts_574 rfl ?_
                            refine G_icmp_ne (pc := 576) (tgt := 609) dL_acts_576 (by decide) (fun h576 => ?_) (fun h576 => ?_)
                            · exact absurd rfl h576
                            · refine G_aload_n (pc := 579) 0 dL_acts_579 rfl ?_
                              refine G_iload (pc := 580) 10 dL_acts_580 rfl ?_
                              refine G_bipush (pc := 582) (v := 6) dL_acts_582 rfl ?_
                              refine gV2 (pc := 584) (k' := 0) (n' := 0) dL_acts_584 lkL_23 ⟨by decide, by decide⟩ (Nat.le_of_ble_eq_true rfl) rfl rfl ⟨by decide, by decide⟩ hX.k (q_walkOf hA hX ?_)
                              intro i hX
                              dsimp only [gRt]
                              rw [t6]
                              refine G_iload (pc := 587) 5 dL_acts_587 rfl ?_
                              refine G_icmp_ne (pc := 589) (tgt := 609) dL_acts_589 (by decide) (fun h589 => ?_) (fun h589 => ?_)
                              · exact absurd rfl h589
                              · refine G_aload_n (pc := 592) 0 dL_acts_592 rfl ?_
                                refine G_iload (pc := 593) 10 dL_acts_593 rfl ?_
                                refine G_bipush (pc := 595) (v := 7) dL_acts_595 rfl ?_
                                refine gV2 (pc := 597) (k' := 0) (n' := 0) dL_acts_597 lkL_23 ⟨by decide, by decide⟩ (Nat.le_of_ble_eq_true rfl) rfl rfl ⟨by decide, by decide⟩ hX.k (q_walkOf hA hX ?_)
                                intro i hX
                                dsimp only [gRt]
                                rw [t7]
                                refine G_iload (pc := 600) 8 dL_acts_600 rfl ?_
                                refine G_icmp_ne (pc := 602) (tgt := 609) dL_acts_602 (by decide) (fun h602 => ?_) (fun h602 => ?_)
                                · exact absurd rfl h602
                                · refine G_iconst (pc := 605) (v := 1) dL_acts_605 rfl ?_
                                  refine G_goto (pc := 606) (tgt := 610) dL_acts_606 (by decide) ?_
                                  refine G_iret (pc := 610) dL_acts_610 ⟨_, rfl, rfl⟩ ⟨by decide, by decide⟩ ?_
                                  exact hQ r l i (some (oF S (nW S) (brS S (23 + 166 * a) (k - 1) sd c) (nI a) (nI k) c)) tx ln hxF hX
                          · exact absurd (show nI (nW S) < 0 by rw [h563]; decide) (nI_pos (by omega))
                      · exact absurd h2 h534
                    · exact absurd ((nI_eq (by omega) (by omega)).mp h513) (by omega)
            · rw [if_neg h2] at eI
              have eB := eI
              refine gV3 (pc := 499) (k' := 0) (n' := 0) dL_acts_499 lkL_70 ⟨by decide, by decide⟩ (Nat.le_of_ble_eq_true rfl) rfl rfl ⟨by decide, by decide⟩ hX.k (q_branch hA hX ?_)
              intro r l i hX
              dsimp only [gRt]
              rw [eB] at hX ⊢
              (try dsimp only at hX ⊢)
              refine G_sn10 (pc := 502) (gSt_i dL_acts_502 (by decide)) rfl ?_
              refine G_iload (pc := 504) 6 dL_acts_504 rfl ?_
              refine G_if_eq (pc := 506) (tgt := 516) dL_acts_506 (by decide) (fun h506 => ?_) (fun h506 => ?_)
              · exact absurd h506 (by decide)
              · refine G_iload (pc := 509) 8 dL_acts_509 rfl ?_
                refine G_iload (pc := 511) 7 dL_acts_511 rfl ?_
                refine G_icmp_ne (pc := 513) (tgt := 531) dL_acts_513 (by decide) (fun h513 => ?_) (fun h513 => ?_)
                · refine G_iload (pc := 531) 9 dL_acts_531 rfl ?_
                  refine G_iconst (pc := 533) (v := 2) dL_acts_533 rfl ?_
                  refine G_icmp_eq (pc := 534) (tgt := 552) dL_acts_534 (by decide) (fun h534 => ?_) (fun h534 => ?_)
                  · exact absurd h534 h2
                  · refine G_iload (pc := 537) 10 dL_acts_537 rfl ?_
                    refine G_ldc (pc := 539) dL_acts_539 kcL_61 ?_
                    refine G_icmp_ne (pc := 541) (tgt := 548) dL_acts_541 (by decide) (fun h541 => ?_) (fun h541 => ?_)
                    · exact absurd rfl h541
                    · refine G_iconst (pc := 544) (v := 1) dL_acts_544 rfl ?_
                      refine G_goto (pc := 545) (tgt := 610) dL_acts_545 (by decide) ?_
                      refine G_iret (pc := 610) dL_acts_610 ⟨_, rfl, rfl⟩ ⟨by decide, by decide⟩ ?_
                      exact hQ r l i none tx ln hx hX
                · exact absurd ((nI_eq (by omega) (by omega)).mp h513) (by omega)
  · refine G_iload (pc := 423) 6 dL_acts_423 rfl ?_
    refine G_if_eq (pc := 425) (tgt := 438) dL_acts_425 (by decide) (fun h425 => ?_) (fun h425 => ?_)
    · refine G_iconst (pc := 438) (v := 0) dL_acts_438 rfl ?_
      refine G_sn7 (pc := 439) (gSt_i dL_acts_439 (by decide)) rfl ?_
      refine G_iload_n (pc := 441) 2 dL_acts_441 rfl ?_
      refine G_iload (pc := 442) 7 dL_acts_442 rfl ?_
      refine G_iconst (pc := 444) (v := 1) dL_acts_444 rfl ?_
      refine G_iadd (pc := 445) dL_acts_445 ?_
      rw [show (0 : Int32) + 1 = nI 1 from rfl]
      refine gS2 (pc := 446) (k' := 0) (n' := 0) dL_acts_446 lkL_36 ⟨by decide, by decide⟩ (Nat.le_of_ble_eq_true rfl) rfl rfl ⟨by decide, by decide⟩ (c_L_low (m := 1) (by decide) (by decide) ?_)
      intro k hk
      dsimp only [gRt]
      obtain rfl : k = 0 := by omega
      refine G_sn8 (pc := 449) (gSt_i dL_acts_449 (by decide)) rfl ?_
      refine G_iload (pc := 451) 6 dL_acts_451 rfl ?_
      refine G_if_eq (pc := 453) (tgt := 475) dL_acts_453 (by decide) (fun h453 => ?_) (fun h453 => ?_)
      · refine G_iconst (pc := 475) (v := 0) dL_acts_475 rfl ?_
        refine G_sn9 (pc := 476) (gSt_i dL_acts_476 (by decide)) rfl ?_
        refine G_aload_n (pc := 478) 0 dL_acts_478 rfl ?_
        refine G_iload (pc := 479) 5 dL_acts_479 rfl ?_
        refine G_iload (pc := 481) 8 dL_acts_481 rfl ?_
        refine G_iload_n (pc := 483) 2 dL_acts_483 rfl ?_
        refine G_bipush (pc := 484) (v := 6) dL_acts_484 rfl ?_
        refine G_ishr (pc := 486) dL_acts_486 ?_
        refine G_iconst (pc := 487) (v := 2) dL_acts_487 rfl ?_
        refine gS2 (pc := 488) (k' := 0) (n' := 0) dL_acts_488 lkL_36 ⟨by decide, by decide⟩ (Nat.le_of_ble_eq_true rfl) rfl rfl ⟨by decide, by decide⟩ (c_L_low (m := 2) (by decide) (by decide) ?_)
        intro u hu
        dsimp only [gRt]
        refine G_diaN (pc := 491) (va := 1) (vb := (-1)) (fun kt kf => G_if_ne (pc := 491) (tgt := 498) dL_acts_491 (by decide) kt kf) dL_acts_494 rfl dL_acts_495 (by decide) dL_acts_498 rfl rfl ?_
        have hsd : (if nI u = 0 then (1 : Int32) else -1) = 1 ∨ (if nI u = 0 then (1 : Int32) else -1) = -1 := by split <;> simp
        generalize (if nI u = 0 then (1 : Int32) else -1) = sd at hsd ⊢
        have eB := aBranch_no (p := nI 0) (sd := sd) hS
        refine gV3 (pc := 499) (k' := 0) (n' := 0) dL_acts_499 lkL_70 ⟨by decide, by decide⟩ (Nat.le_of_ble_eq_true rfl) rfl rfl ⟨by decide, by decide⟩ hX.k (q_branch hA hX ?_)
        intro r l i hX
        dsimp only [gRt]
        rw [eB] at hX ⊢
        (try dsimp only at hX ⊢)
        refine G_sn10 (pc := 502) (gSt_i dL_acts_502 (by decide)) rfl ?_
        refine G_iload (pc := 504) 6 dL_acts_504 rfl ?_
        refine G_if_eq (pc := 506) (tgt := 516) dL_acts_506 (by decide) (fun h506 => ?_) (fun h506 => ?_)
        · refine G_iload (pc := 516) 10 dL_acts_516 rfl ?_
          refine G_ldc (pc := 518) dL_acts_518 kcL_65 ?_
          refine G_icmp_ne (pc := 520) (tgt := 527) dL_acts_520 (by decide) (fun h520 => ?_) (fun h520 => ?_)
          · exact absurd rfl h520
          · refine G_iconst (pc := 523) (v := 1) dL_acts_523 rfl ?_
            refine G_goto (pc := 524) (tgt := 610) dL_acts_524 (by decide) ?_
            refine G_iret (pc := 610) dL_acts_610 ⟨_, rfl, rfl⟩ ⟨by decide, by decide⟩ ?_
            exact hQ r l i none tx ln hx hX
        · exact absurd rfl h506
      · exact absurd rfl h453
    · exact absurd rfl h425

set_option maxRecDepth 100000 in
set_option maxHeartbeats 4000000 in
theorem t_acts_drop {Γ : gG} {T : gTy} {r : gR} {l : gLg} {i : gI} {Q : gQ} {x n ln : Nat} {S : Nat → Int32} {P : Nat → Nat → Int32} {tx : Nat → Int32} {a : Nat} {v y t3 t6 : Int32} (hA : gN Γ ≤ x) (hX : lwX T r i x S P n tx ln) (hx : xS S) (hQ : ∀ r' l' i' o' tx' ln', xS (nxS S o') → lwX T r' i' x (nxS S o') (nxP n P S o') (nxN n o') tx' ln' → Q (some (.int 1)) T r' l' i') (ht : (a < nW S ∧ t6 = 1) ∨ (a = nW S ∧ t6 = 0)) : G Γ ML_acts 0 0 617 [(0, .ref x), (1, .int v), (2, .int y), (3, .int t3), (4, .int (nI (nW S))), (5, .int (nI a)), (6, .int t6)] [] T r l i Q := by
  have hS := hX.v.1
  have hn5 := (nW_of hS).1
  rcases ht with ⟨ha, rfl⟩ | ⟨rfl, rfl⟩
  · refine G_iload (pc := 617) 6 dL_acts_617 rfl ?_
    refine G_if_eq (pc := 619) (tgt := 633) dL_acts_619 (by decide) (fun h619 => ?_) (fun h619 => ?_)
    · exact absurd h619 (by decide)
    · refine G_aload_n (pc := 622) 0 dL_acts_622 rfl ?_
      refine G_iload (pc := 623) 5 dL_acts_623 rfl ?_
      refine G_bipush (pc := 625) (v := 8) dL_acts_625 rfl ?_
      refine gV2 (pc := 627) (k' := 0) (n' := 0) dL_acts_627 lkL_23 ⟨by decide, by decide⟩ (Nat.le_of_ble_eq_true rfl) rfl rfl ⟨by decide, by decide⟩ hX.k (q_walkOf hA hX ?_)
      intro i hX
      dsimp only [gRt]
      refine G_goto (pc := 630) (tgt := 634) dL_acts_630 (by decide) ?_
      refine G_sn7 (pc := 634) (gSt_i dL_acts_634 (by decide)) rfl ?_
      refine G_iload_n (pc := 636) 2 dL_acts_636 rfl ?_
      refine G_iconst (pc := 637) (v := 3) dL_acts_637 rfl ?_
      refine gS2 (pc := 638) (k' := 0) (n' := 0) dL_acts_638 lkL_36 ⟨by decide, by decide⟩ (Nat.le_of_ble_eq_true rfl) rfl rfl ⟨by decide, by decide⟩ (c_L_low (m := 3) (by decide) (by decide) ?_)
      intro u hu
      dsimp only [gRt]
      refine G_if_gt (pc := 641) (tgt := 670) dL_acts_641 (by decide) (fun h641 => ?_) (fun h641 => ?_)
      · refine G_iconst (pc := 670) (v := 1) dL_acts_670 rfl ?_
        refine G_goto (pc := 671) (tgt := 675) dL_acts_671 (by decide) ?_
        refine G_iret (pc := 675) dL_acts_675 ⟨_, rfl, rfl⟩ ⟨by decide, by decide⟩ ?_
        exact hQ r l i none tx ln hx hX
      · refine G_aload_n (pc := 644) 0 dL_acts_644 rfl ?_
        refine G_iload (pc := 645) 5 dL_acts_645 rfl ?_
        refine gV1 (pc := 647) (k' := 0) (n' := 0) dL_acts_647 lkL_73 ⟨by decide, by decide⟩ (Nat.le_of_ble_eq_true rfl) rfl rfl ⟨by decide, by decide⟩ hX.k (q_drop hA hX (fun z => absurd (inW hS ha) z) ?_)
        intro a2 ha2 hw2 r i F hF hX
        dsimp only [gRt]
        obtain rfl : a2 = a := ((nI_eq (by omega) (by omega)).mp hw2).symm
        rw [drop_n hS ha2]
        refine G_iload (pc := 650) 6 dL_acts_650 rfl ?_
        refine G_if_eq (pc := 652) (tgt := 665) dL_acts_652 (by decide) (fun h652 => ?_) (fun h652 => ?_)
        · exact absurd h652 (by decide)
        · refine G_iload (pc := 655) 4 dL_acts_655 rfl ?_
          refine G_iconst (pc := 657) (v := 1) dL_acts_657 rfl ?_
          refine G_isub (pc := 658) dL_acts_658 ?_
          refine G_iload (pc := 659) 7 dL_acts_659 rfl ?_
          refine G_isub (pc := 661) dL_acts_661 ?_
          refine G_goto (pc := 662) (tgt := 667) dL_acts_662 (by decide) ?_
          refine G_icmp_ne (pc := 667) (tgt := 674) dL_acts_667 (by decide) (fun h667 => ?_) (fun h667 => ?_)
          · exact absurd rfl h667
          · refine G_iconst (pc := 670) (v := 1) dL_acts_670 rfl ?_
            refine G_goto (pc := 671) (tgt := 675) dL_acts_671 (by decide) ?_
            refine G_iret (pc := 675) dL_acts_675 ⟨_, rfl, rfl⟩ ⟨by decide, by decide⟩ ?_
            exact hQ r l i (some F) tx ln (x_drop hx hS hF) hX
  · refine G_iload (pc := 617) 6 dL_acts_617 rfl ?_
    refine G_if_eq (pc := 619) (tgt := 633) dL_acts_619 (by decide) (fun h619 => ?_) (fun h619 => ?_)
    · refine G_iconst (pc := 633) (v := 0) dL_acts_633 rfl ?_
      refine G_sn7 (pc := 634) (gSt_i dL_acts_634 (by decide)) rfl ?_
      refine G_iload_n (pc := 636) 2 dL_acts_636 rfl ?_
      refine G_iconst (pc := 637) (v := 3) dL_acts_637 rfl ?_
      refine gS2 (pc := 638) (k' := 0) (n' := 0) dL_acts_638 lkL_36 ⟨by decide, by decide⟩ (Nat.le_of_ble_eq_true rfl) rfl rfl ⟨by decide, by decide⟩ (c_L_low (m := 3) (by decide) (by decide) ?_)
      intro u hu
      dsimp only [gRt]
      refine G_if_gt (pc := 641) (tgt := 670) dL_acts_641 (by decide) (fun h641 => ?_) (fun h641 => ?_)
      · refine G_iconst (pc := 670) (v := 1) dL_acts_670 rfl ?_
        refine G_goto (pc := 671) (tgt := 675) dL_acts_671 (by decide) ?_
        refine G_iret (pc := 675) dL_acts_675 ⟨_, rfl, rfl⟩ ⟨by decide, by decide⟩ ?_
        exact hQ r l i none tx ln hx hX
      · refine G_aload_n (pc := 644) 0 dL_acts_644 rfl ?_
        refine G_iload (pc := 645) 5 dL_acts_645 rfl ?_
        refine gV1 (pc := 647) (k' := 0) (n' := 0) dL_acts_647 lkL_73 ⟨by decide, by decide⟩ (Nat.le_of_ble_eq_true rfl) rfl rfl ⟨by decide, by decide⟩ hX.k (q_drop hA hX (fun _ => ?_) (fun a2 ha2 hw2 => absurd hw2 (fun z => absurd ((nI_eq (by omega) (by omega)).mp z) (by omega))))
        dsimp only [gRt]
        refine G_iload (pc := 650) 6 dL_acts_650 rfl ?_
        refine G_if_eq (pc := 652) (tgt := 665) dL_acts_652 (by decide) (fun h652 => ?_) (fun h652 => ?_)
        · refine G_ldc (pc := 665) dL_acts_665 kcL_65 ?_
          refine G_icmp_ne (pc := 667) (tgt := 674) dL_acts_667 (by decide) (fun h667 => ?_) (fun h667 => ?_)
          · exact absurd rfl h667
          · refine G_iconst (pc := 670) (v := 1) dL_acts_670 rfl ?_
            refine G_goto (pc := 671) (tgt := 675) dL_acts_671 (by decide) ?_
            refine G_iret (pc := 675) dL_acts_675 ⟨_, rfl, rfl⟩ ⟨by decide, by decide⟩ ?_
            exact hQ r l i none tx ln hx hX
        · exact absurd rfl h652
    · exact absurd rfl h619

