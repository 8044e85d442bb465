/-! the law: cases 4 to 13 -/
theorem lo_X10_house : gOkM yX10_house 2 := ⟨by decide +kernel, by decide +kernel, by decide +kernel⟩
theorem lc_X10_house : Cond.code yX10_house cX10_house 3 (some .int) ∈ gtb := (gtb_at 655 (by decide +kernel) rfl)
theorem lo_X11_house : gOkM yX11_house 2 := ⟨by decide +kernel, by decide +kernel, by decide +kernel⟩
theorem lc_X11_house : Cond.code yX11_house cX11_house 3 (some .int) ∈ gtb := (gtb_at 1525 (by decide +kernel) rfl)
theorem lo_X10_bird : gOkM yX10_bird 2 := ⟨by decide +kernel, by decide +kernel, by decide +kernel⟩
theorem lc_X10_bird : Cond.code yX10_bird cX10_bird 3 (some .int) ∈ gtb := (gtb_at 684 (by decide +kernel) rfl)
theorem lo_X11_bird : gOkM yX11_bird 2 := ⟨by decide +kernel, by decide +kernel, by decide +kernel⟩
theorem lc_X11_bird : Cond.code yX11_bird cX11_bird 3 (some .int) ∈ gtb := (gtb_at 1587 (by decide +kernel) rfl)
theorem lo_X10_apart : gOkM yX10_apart 2 := ⟨by decide +kernel, by decide +kernel, by decide +kernel⟩
theorem lc_X10_apart : Cond.code yX10_apart cX10_apart 3 (some .int) ∈ gtb := (gtb_at 697 (by decide +kernel) rfl)
theorem lo_X11_apart : gOkM yX11_apart 2 := ⟨by decide +kernel, by decide +kernel, by decide +kernel⟩
theorem lc_X11_apart : Cond.code yX11_apart cX11_apart 3 (some .int) ∈ gtb := (gtb_at 1603 (by decide +kernel) rfl)
theorem lo_X10_birds : gOkM yX10_birds 0 := ⟨by decide +kernel, by decide +kernel, by decide +kernel⟩
theorem lc_X10_birds : Cond.code yX10_birds cX10_birds 1 (some .int) ∈ gtb := (gtb_at 706 (by decide +kernel) rfl)
theorem lo_X11_birds : gOkM yX11_birds 0 := ⟨by decide +kernel, by decide +kernel, by decide +kernel⟩
theorem lc_X11_birds : Cond.code yX11_birds cX11_birds 1 (some .int) ∈ gtb := (gtb_at 1611 (by decide +kernel) rfl)
theorem lo_X10_fullest : gOkM yX10_fullest 0 := ⟨by decide +kernel, by decide +kernel, by decide +kernel⟩
theorem lc_X10_fullest : Cond.code yX10_fullest cX10_fullest 1 (some .int) ∈ gtb := (gtb_at 718 (by decide +kernel) rfl)
theorem lo_X11_fullest : gOkM yX11_fullest 0 := ⟨by decide +kernel, by decide +kernel, by decide +kernel⟩
theorem lc_X11_fullest : Cond.code yX11_fullest cX11_fullest 3 (some .int) ∈ gtb := (gtb_at 1623 (by decide +kernel) rfl)
theorem lo_X10_clean : gOkM yX10_clean 0 := ⟨by decide +kernel, by decide +kernel, by decide +kernel⟩
theorem lc_X10_clean : Cond.code yX10_clean cX10_clean 1 (some .int) ∈ gtb := (gtb_at 733 (by decide +kernel) rfl)
theorem lo_X11_clean : gOkM yX11_clean 0 := ⟨by decide +kernel, by decide +kernel, by decide +kernel⟩
theorem lc_X11_clean : Cond.code yX11_clean cX11_clean 3 (some .int) ∈ gtb := (gtb_at 1630 (by decide +kernel) rfl)
theorem lo_X10_whereIn : gOkM yX10_whereIn 2 := ⟨by decide +kernel, by decide +kernel, by decide +kernel⟩
theorem lc_X10_whereIn : Cond.code yX10_whereIn cX10_whereIn 3 (some .int) ∈ gtb := (gtb_at 742 (by decide +kernel) rfl)
theorem lo_X11_whereIn : gOkM yX11_whereIn 2 := ⟨by decide +kernel, by decide +kernel, by decide +kernel⟩
theorem lc_X11_whereIn : Cond.code yX11_whereIn cX11_whereIn 4 (some .int) ∈ gtb := (gtb_at 1634 (by decide +kernel) rfl)
theorem lo_X10_sitIn : gOkM yX10_sitIn 2 := ⟨by decide +kernel, by decide +kernel, by decide +kernel⟩
theorem lc_X10_sitIn : Cond.code yX10_sitIn cX10_sitIn 3 (some .int) ∈ gtb := (gtb_at 747 (by decide +kernel) rfl)
theorem lo_X11_sitIn : gOkM yX11_sitIn 2 := ⟨by decide +kernel, by decide +kernel, by decide +kernel⟩
theorem lc_X11_sitIn : Cond.code yX11_sitIn cX11_sitIn 4 (some .int) ∈ gtb := (gtb_at 1642 (by decide +kernel) rfl)
theorem lo_X10_whiteIn : gOkM yX10_whiteIn 2 := ⟨by decide +kernel, by decide +kernel, by decide +kernel⟩
theorem lc_X10_whiteIn : Cond.code yX10_whiteIn cX10_whiteIn 3 (some .int) ∈ gtb := (gtb_at 752 (by decide +kernel) rfl)
theorem lo_X11_whiteIn : gOkM yX11_whiteIn 2 := ⟨by decide +kernel, by decide +kernel, by decide +kernel⟩
theorem lc_X11_whiteIn : Cond.code yX11_whiteIn cX11_whiteIn 4 (some .int) ∈ gtb := (gtb_at 1646 (by decide +kernel) rfl)
theorem lo_X10_sitsIn : gOkM yX10_sitsIn 1 := ⟨by decide +kernel, by decide +kernel, by decide +kernel⟩
theorem lc_X10_sitsIn : Cond.code yX10_sitsIn cX10_sitsIn 2 (some .int) ∈ gtb := (gtb_at 764 (by decide +kernel) rfl)
theorem lo_X11_sitsIn : gOkM yX11_sitsIn 1 := ⟨by decide +kernel, by decide +kernel, by decide +kernel⟩
theorem lc_X11_sitsIn : Cond.code yX11_sitsIn cX11_sitsIn 3 (some .int) ∈ gtb := (gtb_at 1654 (by decide +kernel) rfl)
theorem lk_4 {L : Nat} {xs : Nat → Int32} {κ σ i : Nat} {h : gH} (hi : i + 6 ≤ L) (hL3 : L ≤ 3072) (hκ : κ + 2 ≤ 601024) (hσ : σ + 20 ≤ 7293034) (hI : LI2 h) (K : ∀ h', LI2 h' → gK L xs (κ + 2) (σ + 20) 1882 [some (.ref 2000), some (.ref 0), some (.ref 142), some (.ref 156), some (.int (zI (i : Int))), none, none] [] h') : gK L xs κ σ 404 [some (.ref 2000), some (.ref 0), some (.ref 142), some (.ref 156), some (.int (zI (i : Int))), none, none] [] h := by
  obtain ⟨t, n, T, B, s, q, hI⟩ := hI
  refine gk_aload_n (pc' := 405) dL_law_404 rfl rfl ?_
  refine gk_aload_n (pc' := 406) dL_law_405 rfl rfl ?_
  refine gk_iload (pc' := 408) dL_law_406 rfl rfl ?_
  refine gk_iconst (pc' := 409) dL_law_408 rfl ?_
  refine gk_iadd (pc' := 410) dL_law_409 rfl ?_
  refine gk_sld (pc' := 411) (j := i + 1) (by omega) (by omega) hL3 dL_law_410 rfl ?_
  refine gk_aload_n (pc' := 412) dL_law_411 rfl rfl ?_
  refine gk_iload (pc' := 414) dL_law_412 rfl rfl ?_
  refine gk_iconst (pc' := 415) dL_law_414 rfl ?_
  refine gk_iadd (pc' := 416) dL_law_415 rfl ?_
  refine gk_sld (pc' := 417) (j := i + 2) (by omega) (by omega) hL3 dL_law_416 rfl ?_
  refine gk_callV (C := RX10) (ci := 9) (rest := []) (x_house (S := s.1) (a := xZ xs (i + 1)) (b := xZ xs (i + 2)) hI.1.1 (xZ_in _ _) (xZ_in _ _)) lo_X10_house (gtb_at 652 (by decide +kernel) rfl) (gtb_at 653 (by decide +kernel) rfl) (gtb_at 654 (by decide +kernel) rfl) (gtb_at 1 (by decide +kernel) rfl) lc_X10_house (by decide) rfl rfl (by decide) (by omega) (by omega) rfl (Nat.le_of_ble_eq_true rfl) dL_law_417 rfl (fun v9 h1 q1 => ?_)
  obtain ⟨rfl, b, b9⟩ := q1
  show gK _ _ _ _ _ _ [.int (zI _)] _
  refine gk_aload_n (pc' := 421) dL_law_420 rfl rfl ?_
  refine gk_aload_n (pc' := 422) dL_law_421 rfl rfl ?_
  refine gk_iload (pc' := 424) dL_law_422 rfl rfl ?_
  refine gk_iconst (pc' := 425) dL_law_424 rfl ?_
  refine gk_iadd (pc' := 426) dL_law_425 rfl ?_
  refine gk_sld (pc' := 427) (j := i + 1) (by omega) (by omega) hL3 dL_law_426 rfl ?_
  refine gk_aload_n (pc' := 428) dL_law_427 rfl rfl ?_
  refine gk_iload (pc' := 430) dL_law_428 rfl rfl ?_
  refine gk_iconst (pc' := 431) dL_law_430 rfl ?_
  refine gk_iadd (pc' := 432) dL_law_431 rfl ?_
  refine gk_sld (pc' := 433) (j := i + 2) (by omega) (by omega) hL3 dL_law_432 rfl ?_
  refine gk_callV (C := RX11) (ci := 10) (rest := [.int (zI _)]) (m_house (S := s.1) (a := xZ xs (i + 1)) (b := xZ xs (i + 2)) (hI.2.1.1.xs b.m) (xZ_in _ _) (xZ_in _ _)) lo_X11_house (gtb_at 1522 (by decide +kernel) rfl) (gtb_at 1523 (by decide +kernel) rfl) (gtb_at 1524 (by decide +kernel) rfl) (gtb_at 11 (by decide +kernel) rfl) lc_X11_house (by decide) rfl rfl (by decide) (by omega) (by omega) rfl (Nat.le_of_ble_eq_true rfl) dL_law_433 rfl (fun v9 h2 q2 => ?_)
  obtain ⟨rfl, c, c11⟩ := q2
  show gK _ _ _ _ _ _ [.int (zI _), .int (zI _)] _
  refine gk_same (tgt := 1882) dL_law_436 (by decide) rfl ?_
  exact gk_widen (by omega) (by omega) (K h2 (hI.q b b9 c c11 (ok_aHouse _ _ _ _)))
theorem lk_5 {L : Nat} {xs : Nat → Int32} {κ σ i : Nat} {h : gH} (hi : i + 6 ≤ L) (hL3 : L ≤ 3072) (hκ : κ + 2 ≤ 601024) (hσ : σ + 20 ≤ 7293034) (hI : LI2 h) (K : ∀ h', LI2 h' → gK L xs (κ + 2) (σ + 20) 1882 [some (.ref 2000), some (.ref 0), some (.ref 142), some (.ref 156), some (.int (zI (i : Int))), none, none] [] h') : gK L xs κ σ 441 [some (.ref 2000), some (.ref 0), some (.ref 142), some (.ref 156), some (.int (zI (i : Int))), none, none] [] h := by
  obtain ⟨t, n, T, B, s, q, hI⟩ := hI
  refine gk_aload_n (pc' := 442) dL_law_441 rfl rfl ?_
  refine gk_aload_n (pc' := 443) dL_law_442 rfl rfl ?_
  refine gk_iload (pc' := 445) dL_law_443 rfl rfl ?_
  refine gk_iconst (pc' := 446) dL_law_445 rfl ?_
  refine gk_iadd (pc' := 447) dL_law_446 rfl ?_
  refine gk_sld (pc' := 448) (j := i + 1) (by omega) (by omega) hL3 dL_law_447 rfl ?_
  refine gk_aload_n (pc' := 449) dL_law_448 rfl rfl ?_
  refine gk_iload (pc' := 451) dL_law_449 rfl rfl ?_
  refine gk_iconst (pc' := 452) dL_law_451 rfl ?_
  refine gk_iadd (pc' := 453) dL_law_452 rfl ?_
  refine gk_sld (pc' := 454) (j := i + 2) (by omega) (by omega) hL3 dL_law_453 rfl ?_
  refine gk_callV (C := RX10) (ci := 9) (rest := []) (x_bird (S := s.1) (a := xZ xs (i + 1)) (b := xZ xs (i + 2)) hI.1.1 (xZ_in _ _) (xZ_in _ _)) lo_X10_bird (gtb_at 681 (by decide +kernel) rfl) (gtb_at 682 (by decide +kernel) rfl) (gtb_at 683 (by decide +kernel) rfl) (gtb_at 1 (by decide +kernel) rfl) lc_X10_bird (by decide) rfl rfl (by decide) (by omega) (by omega) rfl (Nat.le_of_ble_eq_true rfl) dL_law_454 rfl (fun v9 h1 q1 => ?_)
  obtain ⟨rfl, b, b9⟩ := q1
  show gK _ _ _ _ _ _ [.int (zI _)] _
  refine gk_aload_n (pc' := 458) dL_law_457 rfl rfl ?_
  refine gk_aload_n (pc' := 459) dL_law_458 rfl rfl ?_
  refine gk_iload (pc' := 461) dL_law_459 rfl rfl ?_
  refine gk_iconst (pc' := 462) dL_law_461 rfl ?_
  refine gk_iadd (pc' := 463) dL_law_462 rfl ?_
  refine gk_sld (pc' := 464) (j := i + 1) (by omega) (by omega) hL3 dL_law_463 rfl ?_
  refine gk_aload_n (pc' := 465) dL_law_464 rfl rfl ?_
  refine gk_iload (pc' := 467) dL_law_465 rfl rfl ?_
  refine gk_iconst (pc' := 468) dL_law_467 rfl ?_
  refine gk_iadd (pc' := 469) dL_law_468 rfl ?_
  refine gk_sld (pc' := 470) (j := i + 2) (by omega) (by omega) hL3 dL_law_469 rfl ?_
  refine gk_callV (C := RX11) (ci := 10) (rest := [.int (zI _)]) (m_bird (S := s.1) (a := xZ xs (i + 1)) (b := xZ xs (i + 2)) (hI.2.1.1.xs b.m) (xZ_in _ _) (xZ_in _ _)) lo_X11_bird (gtb_at 1584 (by decide +kernel) rfl) (gtb_at 1585 (by decide +kernel) rfl) (gtb_at 1586 (by decide +kernel) rfl) (gtb_at 11 (by decide +kernel) rfl) lc_X11_bird (by decide) rfl rfl (by decide) (by omega) (by omega) rfl (Nat.le_of_ble_eq_true rfl) dL_law_470 rfl (fun v9 h2 q2 => ?_)
  obtain ⟨rfl, c, c11⟩ := q2
  show gK _ _ _ _ _ _ [.int (zI _), .int (zI _)] _
  refine gk_same (tgt := 1882) dL_law_473 (by decide) rfl ?_
  exact gk_widen (by omega) (by omega) (K h2 (hI.q b b9 c c11 (ok_aBird _ _ _ _)))
theorem lk_6 {L : Nat} {xs : Nat → Int32} {κ σ i : Nat} {h : gH} (hi : i + 6 ≤ L) (hL3 : L ≤ 3072) (hκ : κ + 2 ≤ 601024) (hσ : σ + 20 ≤ 7293034) (hI : LI2 h) (K : ∀ h', LI2 h' → gK L xs (κ + 2) (σ + 20) 1882 [some (.ref 2000), some (.ref 0), some (.ref 142), some (.ref 156), some (.int (zI (i : Int))), none, none] [] h') : gK L xs κ σ 478 [some (.ref 2000), some (.ref 0), some (.ref 142), some (.ref 156), some (.int (zI (i : Int))), none, none] [] h := by
  obtain ⟨t, n, T, B, s, q, hI⟩ := hI
  refine gk_aload_n (pc' := 479) dL_law_478 rfl rfl ?_
  refine gk_aload_n (pc' := 480) dL_law_479 rfl rfl ?_
  refine gk_iload (pc' := 482) dL_law_480 rfl rfl ?_
  refine gk_iconst (pc' := 483) dL_law_482 rfl ?_
  refine gk_iadd (pc' := 484) dL_law_483 rfl ?_
  refine gk_sld (pc' := 485) (j := i + 1) (by omega) (by omega) hL3 dL_law_484 rfl ?_
  refine gk_aload_n (pc' := 486) dL_law_485 rfl rfl ?_
  refine gk_iload (pc' := 488) dL_law_486 rfl rfl ?_
  refine gk_iconst (pc' := 489) dL_law_488 rfl ?_
  refine gk_iadd (pc' := 490) dL_law_489 rfl ?_
  refine gk_sld (pc' := 491) (j := i + 2) (by omega) (by omega) hL3 dL_law_490 rfl ?_
  refine gk_callV (C := RX10) (ci := 9) (rest := []) (x_apart (S := s.1) (a := xZ xs (i + 1)) (b := xZ xs (i + 2)) hI.1.1 (xZ_in _ _) (xZ_in _ _)) lo_X10_apart (gtb_at 694 (by decide +kernel) rfl) (gtb_at 695 (by decide +kernel) rfl) (gtb_at 696 (by decide +kernel) rfl) (gtb_at 1 (by decide +kernel) rfl) lc_X10_apart (by decide) rfl rfl (by decide) (by omega) (by omega) rfl (Nat.le_of_ble_eq_true rfl) dL_law_491 rfl (fun v9 h1 q1 => ?_)
  obtain ⟨rfl, b, b9⟩ := q1
  show gK _ _ _ _ _ _ [.int (zI _)] _
  refine gk_aload_n (pc' := 495) dL_law_494 rfl rfl ?_
  refine gk_aload_n (pc' := 496) dL_law_495 rfl rfl ?_
  refine gk_iload (pc' := 498) dL_law_496 rfl rfl ?_
  refine gk_iconst (pc' := 499) dL_law_498 rfl ?_
  refine gk_iadd (pc' := 500) dL_law_499 rfl ?_
  refine gk_sld (pc' := 501) (j := i + 1) (by omega) (by omega) hL3 dL_law_500 rfl ?_
  refine gk_aload_n (pc' := 502) dL_law_501 rfl rfl ?_
  refine gk_iload (pc' := 504) dL_law_502 rfl rfl ?_
  refine gk_iconst (pc' := 505) dL_law_504 rfl ?_
  refine gk_iadd (pc' := 506) dL_law_505 rfl ?_
  refine gk_sld (pc' := 507) (j := i + 2) (by omega) (by omega) hL3 dL_law_506 rfl ?_
  refine gk_callV (C := RX11) (ci := 10) (rest := [.int (zI _)]) (m_apart (S := s.1) (a := xZ xs (i + 1)) (b := xZ xs (i + 2)) (hI.2.1.1.xs b.m) (xZ_in _ _) (xZ_in _ _)) lo_X11_apart (gtb_at 1600 (by decide +kernel) rfl) (gtb_at 1601 (by decide +kernel) rfl) (gtb_at 1602 (by decide +kernel) rfl) (gtb_at 11 (by decide +kernel) rfl) lc_X11_apart (by decide) rfl rfl (by decide) (by omega) (by omega) rfl (Nat.le_of_ble_eq_true rfl) dL_law_507 rfl (fun v9 h2 q2 => ?_)
  obtain ⟨rfl, c, c11⟩ := q2
  show gK _ _ _ _ _ _ [.int (zI _), .int (zI _)] _
  refine gk_same (tgt := 1882) dL_law_510 (by decide) rfl ?_
  exact gk_widen (by omega) (by omega) (K h2 (hI.q b b9 c c11 (ok_aApart _ _ _)))
theorem lk_7 {L : Nat} {xs : Nat → Int32} {κ σ i : Nat} {h : gH} (hi : i + 6 ≤ L) (hL3 : L ≤ 3072) (hκ : κ + 2 ≤ 601024) (hσ : σ + 20 ≤ 7293034) (hI : LI2 h) (K : ∀ h', LI2 h' → gK L xs (κ + 2) (σ + 20) 1882 [some (.ref 2000), some (.ref 0), some (.ref 142), some (.ref 156), some (.int (zI (i : Int))), none, none] [] h') : gK L xs κ σ 515 [some (.ref 2000), some (.ref 0), some (.ref 142), some (.ref 156), some (.int (zI (i : Int))), none, none] [] h := by
  obtain ⟨t, n, T, B, s, q, hI⟩ := hI
  refine gk_aload_n (pc' := 516) dL_law_515 rfl rfl ?_
  refine gk_callV (C := RX10) (ci := 9) (rest := []) (x_birds (S := s.1) hI.1.1) lo_X10_birds (gtb_at 703 (by decide +kernel) rfl) (gtb_at 704 (by decide +kernel) rfl) (gtb_at 705 (by decide +kernel) rfl) (gtb_at 1 (by decide +kernel) rfl) lc_X10_birds (by decide) rfl rfl (by decide) (by omega) (by omega) rfl (Nat.le_of_ble_eq_true rfl) dL_law_516 rfl (fun v9 h1 q1 => ?_)
  obtain ⟨rfl, b, b9⟩ := q1
  show gK _ _ _ _ _ _ [.int (zI _)] _
  refine gk_aload_n (pc' := 520) dL_law_519 rfl rfl ?_
  refine gk_callV (C := RX11) (ci := 10) (rest := [.int (zI _)]) (m_birds (S := s.1) (hI.2.1.1.xs b.m)) lo_X11_birds (gtb_at 1608 (by decide +kernel) rfl) (gtb_at 1609 (by decide +kernel) rfl) (gtb_at 1610 (by decide +kernel) rfl) (gtb_at 11 (by decide +kernel) rfl) lc_X11_birds (by decide) rfl rfl (by decide) (by omega) (by omega) rfl (Nat.le_of_ble_eq_true rfl) dL_law_520 rfl (fun v9 h2 q2 => ?_)
  obtain ⟨rfl, c, c11⟩ := q2
  show gK _ _ _ _ _ _ [.int (zI _), .int (zI _)] _
  refine gk_same (tgt := 1882) dL_law_523 (by decide) rfl ?_
  exact gk_widen (by omega) (by omega) (K h2 (hI.q b b9 c c11 (ok_aTown _ _)))
theorem lk_8 {L : Nat} {xs : Nat → Int32} {κ σ i : Nat} {h : gH} (hi : i + 6 ≤ L) (hL3 : L ≤ 3072) (hκ : κ + 2 ≤ 601024) (hσ : σ + 20 ≤ 7293034) (hI : LI2 h) (K : ∀ h', LI2 h' → gK L xs (κ + 2) (σ + 20) 1882 [some (.ref 2000), some (.ref 0), some (.ref 142), some (.ref 156), some (.int (zI (i : Int))), none, none] [] h') : gK L xs κ σ 528 [some (.ref 2000), some (.ref 0), some (.ref 142), some (.ref 156), some (.int (zI (i : Int))), none, none] [] h := by
  obtain ⟨t, n, T, B, s, q, hI⟩ := hI
  refine gk_aload_n (pc' := 529) dL_law_528 rfl rfl ?_
  refine gk_callV (C := RX10) (ci := 9) (rest := []) (x_fullest (S := s.1) hI.1.1) lo_X10_fullest (gtb_at 715 (by decide +kernel) rfl) (gtb_at 716 (by decide +kernel) rfl) (gtb_at 717 (by decide +kernel) rfl) (gtb_at 1 (by decide +kernel) rfl) lc_X10_fullest (by decide) rfl rfl (by decide) (by omega) (by omega) rfl (Nat.le_of_ble_eq_true rfl) dL_law_529 rfl (fun v9 h1 q1 => ?_)
  obtain ⟨rfl, b, b9⟩ := q1
  show gK _ _ _ _ _ _ [.int (zI _)] _
  refine gk_aload_n (pc' := 533) dL_law_532 rfl rfl ?_
  refine gk_callV (C := RX11) (ci := 10) (rest := [.int (zI _)]) (m_fullest (S := s.1) (hI.2.1.1.xs b.m)) lo_X11_fullest (gtb_at 1620 (by decide +kernel) rfl) (gtb_at 1621 (by decide +kernel) rfl) (gtb_at 1622 (by decide +kernel) rfl) (gtb_at 11 (by decide +kernel) rfl) lc_X11_fullest (by decide) rfl rfl (by decide) (by omega) (by omega) rfl (Nat.le_of_ble_eq_true rfl) dL_law_533 rfl (fun v9 h2 q2 => ?_)
  obtain ⟨rfl, c, c11⟩ := q2
  show gK _ _ _ _ _ _ [.int (zI _), .int (zI _)] _
  refine gk_same (tgt := 1882) dL_law_536 (by decide) rfl ?_
  exact gk_widen (by omega) (by omega) (K h2 (hI.q b b9 c c11 (ok_aTown _ _)))
theorem lk_9 {L : Nat} {xs : Nat → Int32} {κ σ i : Nat} {h : gH} (hi : i + 6 ≤ L) (hL3 : L ≤ 3072) (hκ : κ + 2 ≤ 601024) (hσ : σ + 20 ≤ 7293034) (hI : LI2 h) (K : ∀ h', LI2 h' → gK L xs (κ + 2) (σ + 20) 1882 [some (.ref 2000), some (.ref 0), some (.ref 142), some (.ref 156), some (.int (zI (i : Int))), none, none] [] h') : gK L xs κ σ 541 [some (.ref 2000), some (.ref 0), some (.ref 142), some (.ref 156), some (.int (zI (i : Int))), none, none] [] h := by
  obtain ⟨t, n, T, B, s, q, hI⟩ := hI
  refine gk_aload_n (pc' := 542) dL_law_541 rfl rfl ?_
  refine gk_callV (C := RX10) (ci := 9) (rest := []) (x_clean (S := s.1) hI.1.1) lo_X10_clean (gtb_at 730 (by decide +kernel) rfl) (gtb_at 731 (by decide +kernel) rfl) (gtb_at 732 (by decide +kernel) rfl) (gtb_at 1 (by decide +kernel) rfl) lc_X10_clean (by decide) rfl rfl (by decide) (by omega) (by omega) rfl (Nat.le_of_ble_eq_true rfl) dL_law_542 rfl (fun v9 h1 q1 => ?_)
  obtain ⟨rfl, b, b9⟩ := q1
  show gK _ _ _ _ _ _ [.int (zI _)] _
  refine gk_aload_n (pc' := 546) dL_law_545 rfl rfl ?_
  refine gk_callV (C := RX11) (ci := 10) (rest := [.int (zI _)]) (m_clean (S := s.1) (hI.2.1.1.xs b.m)) lo_X11_clean (gtb_at 1627 (by decide +kernel) rfl) (gtb_at 1628 (by decide +kernel) rfl) (gtb_at 1629 (by decide +kernel) rfl) (gtb_at 11 (by decide +kernel) rfl) lc_X11_clean (by decide) rfl rfl (by decide) (by omega) (by omega) rfl (Nat.le_of_ble_eq_true rfl) dL_law_546 rfl (fun v9 h2 q2 => ?_)
  obtain ⟨rfl, c, c11⟩ := q2
  show gK _ _ _ _ _ _ [.int (zI _), .int (zI _)] _
  refine gk_same (tgt := 1882) dL_law_549 (by decide) rfl ?_
  exact gk_widen (by omega) (by omega) (K h2 (hI.q b b9 c c11 (ok_aTown _ _)))
theorem lk_10 {L : Nat} {xs : Nat → Int32} {κ σ i : Nat} {h : gH} (hi : i + 6 ≤ L) (hL3 : L ≤ 3072) (hκ : κ + 2 ≤ 601024) (hσ : σ + 20 ≤ 7293034) (hI : LI2 h) (K : ∀ h', LI2 h' → gK L xs (κ + 2) (σ + 20) 1882 [some (.ref 2000), some (.ref 0), some (.ref 142), some (.ref 156), some (.int (zI (i : Int))), none, none] [] h') : gK L xs κ σ 554 [some (.ref 2000), some (.ref 0), some (.ref 142), some (.ref 156), some (.int (zI (i : Int))), none, none] [] h := by
  obtain ⟨t, n, T, B, s, q, hI⟩ := hI
  refine gk_aload_n (pc' := 555) dL_law_554 rfl rfl ?_
  refine gk_aload_n (pc' := 556) dL_law_555 rfl rfl ?_
  refine gk_iload (pc' := 558) dL_law_556 rfl rfl ?_
  refine gk_iconst (pc' := 559) dL_law_558 rfl ?_
  refine gk_iadd (pc' := 560) dL_law_559 rfl ?_
  refine gk_sld (pc' := 561) (j := i + 1) (by omega) (by omega) hL3 dL_law_560 rfl ?_
  refine gk_aload_n (pc' := 562) dL_law_561 rfl rfl ?_
  refine gk_iload (pc' := 564) dL_law_562 rfl rfl ?_
  refine gk_iconst (pc' := 565) dL_law_564 rfl ?_
  refine gk_iadd (pc' := 566) dL_law_565 rfl ?_
  refine gk_sld (pc' := 567) (j := i + 2) (by omega) (by omega) hL3 dL_law_566 rfl ?_
  refine gk_callV (C := RX10) (ci := 9) (rest := []) (x_whereIn (S := s.1) (a := xZ xs (i + 1)) (b := xZ xs (i + 2)) hI.1.1 (xZ_in _ _) (xZ_in _ _)) lo_X10_whereIn (gtb_at 739 (by decide +kernel) rfl) (gtb_at 740 (by decide +kernel) rfl) (gtb_at 741 (by decide +kernel) rfl) (gtb_at 1 (by decide +kernel) rfl) lc_X10_whereIn (by decide) rfl rfl (by decide) (by omega) (by omega) rfl (Nat.le_of_ble_eq_true rfl) dL_law_567 rfl (fun v9 h1 q1 => ?_)
  obtain ⟨rfl, b, b9⟩ := q1
  show gK _ _ _ _ _ _ [.int (zI _)] _
  refine gk_aload_n (pc' := 571) dL_law_570 rfl rfl ?_
  refine gk_aload_n (pc' := 572) dL_law_571 rfl rfl ?_
  refine gk_iload (pc' := 574) dL_law_572 rfl rfl ?_
  refine gk_iconst (pc' := 575) dL_law_574 rfl ?_
  refine gk_iadd (pc' := 576) dL_law_575 rfl ?_
  refine gk_sld (pc' := 577) (j := i + 1) (by omega) (by omega) hL3 dL_law_576 rfl ?_
  refine gk_aload_n (pc' := 578) dL_law_577 rfl rfl ?_
  refine gk_iload (pc' := 580) dL_law_578 rfl rfl ?_
  refine gk_iconst (pc' := 581) dL_law_580 rfl ?_
  refine gk_iadd (pc' := 582) dL_law_581 rfl ?_
  refine gk_sld (pc' := 583) (j := i + 2) (by omega) (by omega) hL3 dL_law_582 rfl ?_
  refine gk_callV (C := RX11) (ci := 10) (rest := [.int (zI _)]) (m_whereIn (S := s.1) (a := xZ xs (i + 1)) (b := xZ xs (i + 2)) (hI.2.1.1.xs b.m) (xZ_in _ _) (xZ_in _ _)) lo_X11_whereIn (gtb_at 1631 (by decide +kernel) rfl) (gtb_at 1632 (by decide +kernel) rfl) (gtb_at 1633 (by decide +kernel) rfl) (gtb_at 11 (by decide +kernel) rfl) lc_X11_whereIn (by decide) rfl rfl (by decide) (by omega) (by omega) rfl (Nat.le_of_ble_eq_true rfl) dL_law_583 rfl (fun v9 h2 q2 => ?_)
  obtain ⟨rfl, c, c11⟩ := q2
  show gK _ _ _ _ _ _ [.int (zI _), .int (zI _)] _
  refine gk_same (tgt := 1882) dL_law_586 (by decide) rfl ?_
  exact gk_widen (by omega) (by omega) (K h2 (hI.q b b9 c c11 (ok_aBiN _ _ _ _ _)))
theorem lk_11 {L : Nat} {xs : Nat → Int32} {κ σ i : Nat} {h : gH} (hi : i + 6 ≤ L) (hL3 : L ≤ 3072) (hκ : κ + 2 ≤ 601024) (hσ : σ + 20 ≤ 7293034) (hI : LI2 h) (K : ∀ h', LI2 h' → gK L xs (κ + 2) (σ + 20) 1882 [some (.ref 2000), some (.ref 0), some (.ref 142), some (.ref 156), some (.int (zI (i : Int))), none, none] [] h') : gK L xs κ σ 591 [some (.ref 2000), some (.ref 0), some (.ref 142), some (.ref 156), some (.int (zI (i : Int))), none, none] [] h := by
  obtain ⟨t, n, T, B, s, q, hI⟩ := hI
  refine gk_aload_n (pc' := 592) dL_law_591 rfl rfl ?_
  refine gk_aload_n (pc' := 593) dL_law_592 rfl rfl ?_
  refine gk_iload (pc' := 595) dL_law_593 rfl rfl ?_
  refine gk_iconst (pc' := 596) dL_law_595 rfl ?_
  refine gk_iadd (pc' := 597) dL_law_596 rfl ?_
  refine gk_sld (pc' := 598) (j := i + 1) (by omega) (by omega) hL3 dL_law_597 rfl ?_
  refine gk_aload_n (pc' := 599) dL_law_598 rfl rfl ?_
  refine gk_iload (pc' := 601) dL_law_599 rfl rfl ?_
  refine gk_iconst (pc' := 602) dL_law_601 rfl ?_
  refine gk_iadd (pc' := 603) dL_law_602 rfl ?_
  refine gk_sld (pc' := 604) (j := i + 2) (by omega) (by omega) hL3 dL_law_603 rfl ?_
  refine gk_callV (C := RX10) (ci := 9) (rest := []) (x_sitIn (S := s.1) (a := xZ xs (i + 1)) (b := xZ xs (i + 2)) hI.1.1 (xZ_in _ _) (xZ_in _ _)) lo_X10_sitIn (gtb_at 744 (by decide +kernel) rfl) (gtb_at 745 (by decide +kernel) rfl) (gtb_at 746 (by decide +kernel) rfl) (gtb_at 1 (by decide +kernel) rfl) lc_X10_sitIn (by decide) rfl rfl (by decide) (by omega) (by omega) rfl (Nat.le_of_ble_eq_true rfl) dL_law_604 rfl (fun v9 h1 q1 => ?_)
  obtain ⟨rfl, b, b9⟩ := q1
  show gK _ _ _ _ _ _ [.int (zI _)] _
  refine gk_aload_n (pc' := 608) dL_law_607 rfl rfl ?_
  refine gk_aload_n (pc' := 609) dL_law_608 rfl rfl ?_
  refine gk_iload (pc' := 611) dL_law_609 rfl rfl ?_
  refine gk_iconst (pc' := 612) dL_law_611 rfl ?_
  refine gk_iadd (pc' := 613) dL_law_612 rfl ?_
  refine gk_sld (pc' := 614) (j := i + 1) (by omega) (by omega) hL3 dL_law_613 rfl ?_
  refine gk_aload_n (pc' := 615) dL_law_614 rfl rfl ?_
  refine gk_iload (pc' := 617) dL_law_615 rfl rfl ?_
  refine gk_iconst (pc' := 618) dL_law_617 rfl ?_
  refine gk_iadd (pc' := 619) dL_law_618 rfl ?_
  refine gk_sld (pc' := 620) (j := i + 2) (by omega) (by omega) hL3 dL_law_619 rfl ?_
  refine gk_callV (C := RX11) (ci := 10) (rest := [.int (zI _)]) (m_sitIn (S := s.1) (a := xZ xs (i + 1)) (b := xZ xs (i + 2)) (hI.2.1.1.xs b.m) (xZ_in _ _) (xZ_in _ _)) lo_X11_sitIn (gtb_at 1639 (by decide +kernel) rfl) (gtb_at 1640 (by decide +kernel) rfl) (gtb_at 1641 (by decide +kernel) rfl) (gtb_at 11 (by decide +kernel) rfl) lc_X11_sitIn (by decide) rfl rfl (by decide) (by omega) (by omega) rfl (Nat.le_of_ble_eq_true rfl) dL_law_620 rfl (fun v9 h2 q2 => ?_)
  obtain ⟨rfl, c, c11⟩ := q2
  show gK _ _ _ _ _ _ [.int (zI _), .int (zI _)] _
  refine gk_same (tgt := 1882) dL_law_623 (by decide) rfl ?_
  exact gk_widen (by omega) (by omega) (K h2 (hI.q b b9 c c11 (ok_aHoN _ _ _ _ _)))
theorem lk_12 {L : Nat} {xs : Nat → Int32} {κ σ i : Nat} {h : gH} (hi : i + 6 ≤ L) (hL3 : L ≤ 3072) (hκ : κ + 2 ≤ 601024) (hσ : σ + 20 ≤ 7293034) (hI : LI2 h) (K : ∀ h', LI2 h' → gK L xs (κ + 2) (σ + 20) 1882 [some (.ref 2000), some (.ref 0), some (.ref 142), some (.ref 156), some (.int (zI (i : Int))), none, none] [] h') : gK L xs κ σ 628 [some (.ref 2000), some (.ref 0), some (.ref 142), some (.ref 156), some (.int (zI (i : Int))), none, none] [] h := by
  obtain ⟨t, n, T, B, s, q, hI⟩ := hI
  refine gk_aload_n (pc' := 629) dL_law_628 rfl rfl ?_
  refine gk_aload_n (pc' := 630) dL_law_629 rfl rfl ?_
  refine gk_iload (pc' := 632) dL_law_630 rfl rfl ?_
  refine gk_iconst (pc' := 633) dL_law_632 rfl ?_
  refine gk_iadd (pc' := 634) dL_law_633 rfl ?_
  refine gk_sld (pc' := 635) (j := i + 1) (by omega) (by omega) hL3 dL_law_634 rfl ?_
  refine gk_aload_n (pc' := 636) dL_law_635 rfl rfl ?_
  refine gk_iload (pc' := 638) dL_law_636 rfl rfl ?_
  refine gk_iconst (pc' := 639) dL_law_638 rfl ?_
  refine gk_iadd (pc' := 640) dL_law_639 rfl ?_
  refine gk_sld (pc' := 641) (j := i + 2) (by omega) (by omega) hL3 dL_law_640 rfl ?_
  refine gk_callV (C := RX10) (ci := 9) (rest := []) (x_whiteIn (S := s.1) (a := xZ xs (i + 1)) (b := xZ xs (i + 2)) hI.1.1 (xZ_in _ _) (xZ_in _ _)) lo_X10_whiteIn (gtb_at 749 (by decide +kernel) rfl) (gtb_at 750 (by decide +kernel) rfl) (gtb_at 751 (by decide +kernel) rfl) (gtb_at 1 (by decide +kernel) rfl) lc_X10_whiteIn (by decide) rfl rfl (by decide) (by omega) (by omega) rfl (Nat.le_of_ble_eq_true rfl) dL_law_641 rfl (fun v9 h1 q1 => ?_)
  obtain ⟨rfl, b, b9⟩ := q1
  show gK _ _ _ _ _ _ [.int (zI _)] _
  refine gk_aload_n (pc' := 645) dL_law_644 rfl rfl ?_
  refine gk_aload_n (pc' := 646) dL_law_645 rfl rfl ?_
  refine gk_iload (pc' := 648) dL_law_646 rfl rfl ?_
  refine gk_iconst (pc' := 649) dL_law_648 rfl ?_
  refine gk_iadd (pc' := 650) dL_law_649 rfl ?_
  refine gk_sld (pc' := 651) (j := i + 1) (by omega) (by omega) hL3 dL_law_650 rfl ?_
  refine gk_aload_n (pc' := 652) dL_law_651 rfl rfl ?_
  refine gk_iload (pc' := 654) dL_law_652 rfl rfl ?_
  refine gk_iconst (pc' := 655) dL_law_654 rfl ?_
  refine gk_iadd (pc' := 656) dL_law_655 rfl ?_
  refine gk_sld (pc' := 657) (j := i + 2) (by omega) (by omega) hL3 dL_law_656 rfl ?_
  refine gk_callV (C := RX11) (ci := 10) (rest := [.int (zI _)]) (m_whiteIn (S := s.1) (a := xZ xs (i + 1)) (b := xZ xs (i + 2)) (hI.2.1.1.xs b.m) (xZ_in _ _) (xZ_in _ _)) lo_X11_whiteIn (gtb_at 1643 (by decide +kernel) rfl) (gtb_at 1644 (by decide +kernel) rfl) (gtb_at 1645 (by decide +kernel) rfl) (gtb_at 11 (by decide +kernel) rfl) lc_X11_whiteIn (by decide) rfl rfl (by decide) (by omega) (by omega) rfl (Nat.le_of_ble_eq_true rfl) dL_law_657 rfl (fun v9 h2 q2 => ?_)
  obtain ⟨rfl, c, c11⟩ := q2
  show gK _ _ _ _ _ _ [.int (zI _), .int (zI _)] _
  refine gk_same (tgt := 1882) dL_law_660 (by decide) rfl ?_
  exact gk_widen (by omega) (by omega) (K h2 (hI.q b b9 c c11 (ok_aHoN _ _ _ _ _)))
theorem lk_13 {L : Nat} {xs : Nat → Int32} {κ σ i : Nat} {h : gH} (hi : i + 6 ≤ L) (hL3 : L ≤ 3072) (hκ : κ + 2 ≤ 601024) (hσ : σ + 20 ≤ 7293034) (hI : LI2 h) (K : ∀ h', LI2 h' → gK L xs (κ + 2) (σ + 20) 1882 [some (.ref 2000), some (.ref 0), some (.ref 142), some (.ref 156), some (.int (zI (i : Int))), none, none] [] h') : gK L xs κ σ 665 [some (.ref 2000), some (.ref 0), some (.ref 142), some (.ref 156), some (.int (zI (i : Int))), none, none] [] h := by
  obtain ⟨t, n, T, B, s, q, hI⟩ := hI
  refine gk_aload_n (pc' := 666) dL_law_665 rfl rfl ?_
  refine gk_aload_n (pc' := 667) dL_law_666 rfl rfl ?_
  refine gk_iload (pc' := 669) dL_law_667 rfl rfl ?_
  refine gk_iconst (pc' := 670) dL_law_669 rfl ?_
  refine gk_iadd (pc' := 671) dL_law_670 rfl ?_
  refine gk_sld (pc' := 672) (j := i + 1) (by omega) (by omega) hL3 dL_law_671 rfl ?_
  refine gk_callV (C := RX10) (ci := 9) (rest := []) (x_sitsIn (S := s.1) (a := xZ xs (i + 1)) hI.1.1 (xZ_in _ _)) lo_X10_sitsIn (gtb_at 761 (by decide +kernel) rfl) (gtb_at 762 (by decide +kernel) rfl) (gtb_at 763 (by decide +kernel) rfl) (gtb_at 1 (by decide +kernel) rfl) lc_X10_sitsIn (by decide) rfl rfl (by decide) (by omega) (by omega) rfl (Nat.le_of_ble_eq_true rfl) dL_law_672 rfl (fun v9 h1 q1 => ?_)
  obtain ⟨rfl, b, b9⟩ := q1
  show gK _ _ _ _ _ _ [.int (zI _)] _
  refine gk_aload_n (pc' := 676) dL_law_675 rfl rfl ?_
  refine gk_aload_n (pc' := 677) dL_law_676 rfl rfl ?_
  refine gk_iload (pc' := 679) dL_law_677 rfl rfl ?_
  refine gk_iconst (pc' := 680) dL_law_679 rfl ?_
  refine gk_iadd (pc' := 681) dL_law_680 rfl ?_
  refine gk_sld (pc' := 682) (j := i + 1) (by omega) (by omega) hL3 dL_law_681 rfl ?_
  refine gk_callV (C := RX11) (ci := 10) (rest := [.int (zI _)]) (m_sitsIn (S := s.1) (a := xZ xs (i + 1)) (hI.2.1.1.xs b.m) (xZ_in _ _)) lo_X11_sitsIn (gtb_at 1651 (by decide +kernel) rfl) (gtb_at 1652 (by decide +kernel) rfl) (gtb_at 1653 (by decide +kernel) rfl) (gtb_at 11 (by decide +kernel) rfl) lc_X11_sitsIn (by decide) rfl rfl (by decide) (by omega) (by omega) rfl (Nat.le_of_ble_eq_true rfl) dL_law_682 rfl (fun v9 h2 q2 => ?_)
  obtain ⟨rfl, c, c11⟩ := q2
  show gK _ _ _ _ _ _ [.int (zI _), .int (zI _)] _
  refine gk_same (tgt := 1882) dL_law_685 (by decide) rfl ?_
  exact gk_widen (by omega) (by omega) (K h2 (hI.q b b9 c c11 (ok_aBi _ _ _)))
