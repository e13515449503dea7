/-! MG: fields that are no longer null -/
def NZ (h : Hp) (n : Nat) (js : List Nat) : Prop := ∀ j, js.elem j = true → ¬ Rv h n j = 0
theorem NZ_nil {h : Hp} {n : Nat} : NZ h n [] := fun j hj => absurd hj (by simp)
theorem NZ_cons {h : Hp} {n j : Nat} {js : List Nat} (a : ¬ Rv h n j = 0) (p : NZ h n js) : NZ h n (j :: js) := fun k hk => by
  by_cases e : k = j
  · rw [e]; exact a
  · refine p k ?_
    have h2 := List.elem_iff.mp hk
    rcases List.mem_cons.mp h2 with z | z
    · exact absurd z e
    · exact List.elem_iff.mpr z
theorem NZ_fx {wr : List Nat} {h h1 : Hp} {n : Nat} {js : List Nat} (F : Fx wr h h1) (t : Tg h n = 1012) (hw : js.all (fun j => !wr.elem (enc 1012 j)) = true) (p : NZ h n js) : NZ h1 n js := fun j hj => by
  have w := List.all_eq_true.mp hw j (List.elem_iff.mp hj)
  rw [fxR (T := 1011) F t (by simpa using w)]
  exact p j hj
def LZR (h : Hp) (m : Nat) : Prop := ¬ Rv h m 27 = 0 ∧ Tg h (Rv h m 27) = 127100 ∧ LZ h (Rv h m 27)
theorem LZR_fx {wr : List Nat} {h h1 : Hp} {m : Nat} (F : Fx wr h h1) (t : Tg h m = 1012) (hw : ([202427, 127100 * 200] : List Nat).all (fun e => !wr.elem e) = true) (p : LZR h m) : LZR h1 m := by
  obtain ⟨a, b, c⟩ := p
  unfold LZR
  rw [fxR (T := 1011) (i := 27) F t (w_of hw rfl)]
  exact ⟨a, fxT F b, LZ_fx F b (w_of hw rfl) c⟩
theorem LZR_new {h h1 h2 : Hp} {m n k : Nat} (hh : nw h n 127100 k = h1) (h0 : n ≠ 0) (hm : m ≠ n) (hr : sR h1 m 27 n = h2) : LZR h2 m := by
  unfold LZR
  rw [pR_e hr]
  exact ⟨h0, by rw [pRT hr]; exact pN_T hh, fun k => by rw [pRI hr]; exact pN_I hh⟩
abbrev cX12_init : ByteArray := prog_14_method_4_code
def yX12_init : MethodName := ⟨RX12, "<init>", "()V"⟩
theorem okX12_init : yok yX12_init 0 := by decide +kernel
theorem dX12_init_767 : decode cX12_init 767 = .ok (.iconst 0, 1) := by decide +kernel
theorem dX12_init_768 : decode cX12_init 768 = .ok (.istore_n 1, 1) := by decide +kernel
theorem dX12_init_769 : decode cX12_init 769 = .ok (.iload_n 1, 1) := by decide +kernel
theorem dX12_init_770 : decode cX12_init 770 = .ok (.bipush 96, 2) := by decide +kernel
theorem dX12_init_772 : decode cX12_init 772 = .ok (.if_icmp .ge 32, 3) := by decide +kernel
theorem dX12_init_804 : decode cX12_init 804 = .ok (.aload_n 0, 1) := by decide +kernel
theorem dX12_init_805 : decode cX12_init 805 = .ok (.iconst (-1), 1) := by decide +kernel
theorem dX12_init_806 : decode cX12_init 806 = .ok (.putfield 287, 3) := by decide +kernel
theorem dX12_init_809 : decode cX12_init 809 = .ok (.aload_n 0, 1) := by decide +kernel
theorem dX12_init_810 : decode cX12_init 810 = .ok (.iconst 1, 1) := by decide +kernel
theorem dX12_init_811 : decode cX12_init 811 = .ok (.putfield 290, 3) := by decide +kernel
theorem dX12_init_814 : decode cX12_init 814 = .ok (.return_, 1) := by decide +kernel
theorem dX12_init_775 : decode cX12_init 775 = .ok (.aload_n 0, 1) := by decide +kernel
theorem dX12_init_776 : decode cX12_init 776 = .ok (.getfield 161, 3) := by decide +kernel
theorem dX12_init_779 : decode cX12_init 779 = .ok (.iload_n 1, 1) := by decide +kernel
theorem dX12_init_780 : decode cX12_init 780 = .ok (.sipush 500, 3) := by decide +kernel
theorem dX12_init_783 : decode cX12_init 783 = .ok (.iastore, 1) := by decide +kernel
theorem dX12_init_784 : decode cX12_init 784 = .ok (.aload_n 0, 1) := by decide +kernel
theorem dX12_init_785 : decode cX12_init 785 = .ok (.getfield 164, 3) := by decide +kernel
theorem dX12_init_788 : decode cX12_init 788 = .ok (.iload_n 1, 1) := by decide +kernel
theorem dX12_init_789 : decode cX12_init 789 = .ok (.iconst 1, 1) := by decide +kernel
theorem dX12_init_790 : decode cX12_init 790 = .ok (.bastore, 1) := by decide +kernel
theorem dX12_init_791 : decode cX12_init 791 = .ok (.aload_n 0, 1) := by decide +kernel
theorem dX12_init_792 : decode cX12_init 792 = .ok (.getfield 170, 3) := by decide +kernel
theorem dX12_init_795 : decode cX12_init 795 = .ok (.iload_n 1, 1) := by decide +kernel
theorem dX12_init_796 : decode cX12_init 796 = .ok (.iconst (-1), 1) := by decide +kernel
theorem dX12_init_797 : decode cX12_init 797 = .ok (.iastore, 1) := by decide +kernel
theorem dX12_init_798 : decode cX12_init 798 = .ok (.iinc 1 1, 3) := by decide +kernel
theorem dX12_init_801 : decode cX12_init 801 = .ok (.goto (-32), 3) := by decide +kernel
theorem dX12_init_735 : decode cX12_init 735 = .ok (.aload_n 0, 1) := by decide +kernel
theorem dX12_init_736 : decode cX12_init 736 = .ok (.bipush 96, 2) := by decide +kernel
theorem dX12_init_738 : decode cX12_init 738 = .ok (.newarray .boolean, 2) := by decide +kernel
theorem dX12_init_740 : decode cX12_init 740 = .ok (.putfield 275, 3) := by decide +kernel
theorem pk_LandSurveyModel_82 : pk RX12 TX12 87 82 tyX12 true := ⟨tyX12_ok, nmX12, rfl⟩
theorem dX12_init_743 : decode cX12_init 743 = .ok (.aload_n 0, 1) := by decide +kernel
theorem dX12_init_744 : decode cX12_init 744 = .ok (.bipush 8, 2) := by decide +kernel
theorem dX12_init_746 : decode cX12_init 746 = .ok (.newarray .int, 2) := by decide +kernel
theorem dX12_init_748 : decode cX12_init 748 = .ok (.putfield 278, 3) := by decide +kernel
theorem pk_LandSurveyModel_84 : pk RX12 TX12 87 84 tyX12 true := ⟨tyX12_ok, nmX12, rfl⟩
theorem dX12_init_751 : decode cX12_init 751 = .ok (.aload_n 0, 1) := by decide +kernel
theorem dX12_init_752 : decode cX12_init 752 = .ok (.bipush 8, 2) := by decide +kernel
theorem dX12_init_754 : decode cX12_init 754 = .ok (.newarray .int, 2) := by decide +kernel
theorem dX12_init_756 : decode cX12_init 756 = .ok (.putfield 281, 3) := by decide +kernel
theorem pk_LandSurveyModel_85 : pk RX12 TX12 87 85 tyX12 true := ⟨tyX12_ok, nmX12, rfl⟩
theorem dX12_init_759 : decode cX12_init 759 = .ok (.aload_n 0, 1) := by decide +kernel
theorem dX12_init_760 : decode cX12_init 760 = .ok (.bipush 97, 2) := by decide +kernel
theorem dX12_init_762 : decode cX12_init 762 = .ok (.newarray .int, 2) := by decide +kernel
theorem dX12_init_764 : decode cX12_init 764 = .ok (.putfield 284, 3) := by decide +kernel
theorem pk_LandSurveyModel_86 : pk RX12 TX12 87 86 tyX12 true := ⟨tyX12_ok, nmX12, rfl⟩
theorem dX12_init_668 : decode cX12_init 668 = .ok (.aload_n 0, 1) := by decide +kernel
theorem dX12_init_669 : decode cX12_init 669 = .ok (.bipush 16, 2) := by decide +kernel
theorem dX12_init_671 : decode cX12_init 671 = .ok (.newarray .boolean, 2) := by decide +kernel
theorem dX12_init_673 : decode cX12_init 673 = .ok (.putfield 251, 3) := by decide +kernel
theorem pk_LandSurveyModel_70 : pk RX12 TX12 87 70 tyX12 true := ⟨tyX12_ok, nmX12, rfl⟩
theorem dX12_init_676 : decode cX12_init 676 = .ok (.aload_n 0, 1) := by decide +kernel
theorem dX12_init_677 : decode cX12_init 677 = .ok (.bipush 16, 2) := by decide +kernel
theorem dX12_init_679 : decode cX12_init 679 = .ok (.newarray .int, 2) := by decide +kernel
theorem dX12_init_681 : decode cX12_init 681 = .ok (.putfield 254, 3) := by decide +kernel
theorem pk_LandSurveyModel_71 : pk RX12 TX12 87 71 tyX12 true := ⟨tyX12_ok, nmX12, rfl⟩
theorem dX12_init_684 : decode cX12_init 684 = .ok (.aload_n 0, 1) := by decide +kernel
theorem dX12_init_685 : decode cX12_init 685 = .ok (.bipush 16, 2) := by decide +kernel
theorem dX12_init_687 : decode cX12_init 687 = .ok (.newarray .long, 2) := by decide +kernel
theorem dX12_init_689 : decode cX12_init 689 = .ok (.putfield 257, 3) := by decide +kernel
theorem pk_LandSurveyModel_72 : pk RX12 TX12 87 72 tyX12 true := ⟨tyX12_ok, nmX12, rfl⟩
theorem dX12_init_692 : decode cX12_init 692 = .ok (.aload_n 0, 1) := by decide +kernel
theorem dX12_init_693 : decode cX12_init 693 = .ok (.bipush 16, 2) := by decide +kernel
theorem dX12_init_695 : decode cX12_init 695 = .ok (.newarray .boolean, 2) := by decide +kernel
theorem dX12_init_697 : decode cX12_init 697 = .ok (.putfield 260, 3) := by decide +kernel
theorem pk_LandSurveyModel_73 : pk RX12 TX12 87 73 tyX12 true := ⟨tyX12_ok, nmX12, rfl⟩
theorem dX12_init_700 : decode cX12_init 700 = .ok (.aload_n 0, 1) := by decide +kernel
theorem dX12_init_701 : decode cX12_init 701 = .ok (.bipush 16, 2) := by decide +kernel
theorem dX12_init_703 : decode cX12_init 703 = .ok (.newarray .boolean, 2) := by decide +kernel
theorem dX12_init_705 : decode cX12_init 705 = .ok (.putfield 263, 3) := by decide +kernel
theorem pk_LandSurveyModel_74 : pk RX12 TX12 87 74 tyX12 true := ⟨tyX12_ok, nmX12, rfl⟩
theorem dX12_init_708 : decode cX12_init 708 = .ok (.aload_n 0, 1) := by decide +kernel
theorem dX12_init_709 : decode cX12_init 709 = .ok (.sipush 1536, 3) := by decide +kernel
theorem dX12_init_712 : decode cX12_init 712 = .ok (.newarray .int, 2) := by decide +kernel
theorem dX12_init_714 : decode cX12_init 714 = .ok (.putfield 266, 3) := by decide +kernel
theorem pk_LandSurveyModel_75 : pk RX12 TX12 87 75 tyX12 true := ⟨tyX12_ok, nmX12, rfl⟩
theorem dX12_init_717 : decode cX12_init 717 = .ok (.aload_n 0, 1) := by decide +kernel
theorem dX12_init_718 : decode cX12_init 718 = .ok (.sipush 1536, 3) := by decide +kernel
theorem dX12_init_721 : decode cX12_init 721 = .ok (.newarray .int, 2) := by decide +kernel
theorem dX12_init_723 : decode cX12_init 723 = .ok (.putfield 269, 3) := by decide +kernel
theorem pk_LandSurveyModel_76 : pk RX12 TX12 87 76 tyX12 true := ⟨tyX12_ok, nmX12, rfl⟩
theorem dX12_init_726 : decode cX12_init 726 = .ok (.aload_n 0, 1) := by decide +kernel
theorem dX12_init_727 : decode cX12_init 727 = .ok (.sipush 960, 3) := by decide +kernel
theorem dX12_init_730 : decode cX12_init 730 = .ok (.newarray .int, 2) := by decide +kernel
theorem dX12_init_732 : decode cX12_init 732 = .ok (.putfield 272, 3) := by decide +kernel
theorem pk_LandSurveyModel_81 : pk RX12 TX12 87 81 tyX12 true := ⟨tyX12_ok, nmX12, rfl⟩
theorem dX12_init_602 : decode cX12_init 602 = .ok (.aload_n 0, 1) := by decide +kernel
theorem dX12_init_603 : decode cX12_init 603 = .ok (.iconst 4, 1) := by decide +kernel
theorem dX12_init_604 : decode cX12_init 604 = .ok (.newarray .int, 2) := by decide +kernel
theorem dX12_init_606 : decode cX12_init 606 = .ok (.putfield 227, 3) := by decide +kernel
theorem pk_LandSurveyModel_60 : pk RX12 TX12 87 60 tyX12 true := ⟨tyX12_ok, nmX12, rfl⟩
theorem dX12_init_609 : decode cX12_init 609 = .ok (.aload_n 0, 1) := by decide +kernel
theorem dX12_init_610 : decode cX12_init 610 = .ok (.iconst 4, 1) := by decide +kernel
theorem dX12_init_611 : decode cX12_init 611 = .ok (.newarray .int, 2) := by decide +kernel
theorem dX12_init_613 : decode cX12_init 613 = .ok (.putfield 230, 3) := by decide +kernel
theorem pk_LandSurveyModel_61 : pk RX12 TX12 87 61 tyX12 true := ⟨tyX12_ok, nmX12, rfl⟩
theorem dX12_init_616 : decode cX12_init 616 = .ok (.aload_n 0, 1) := by decide +kernel
theorem dX12_init_617 : decode cX12_init 617 = .ok (.sipush 600, 3) := by decide +kernel
theorem dX12_init_620 : decode cX12_init 620 = .ok (.newarray .int, 2) := by decide +kernel
theorem dX12_init_622 : decode cX12_init 622 = .ok (.putfield 233, 3) := by decide +kernel
theorem pk_LandSurveyModel_63 : pk RX12 TX12 87 63 tyX12 true := ⟨tyX12_ok, nmX12, rfl⟩
theorem dX12_init_625 : decode cX12_init 625 = .ok (.aload_n 0, 1) := by decide +kernel
theorem dX12_init_626 : decode cX12_init 626 = .ok (.sipush 600, 3) := by decide +kernel
theorem dX12_init_629 : decode cX12_init 629 = .ok (.newarray .int, 2) := by decide +kernel
theorem dX12_init_631 : decode cX12_init 631 = .ok (.putfield 236, 3) := by decide +kernel
theorem pk_LandSurveyModel_64 : pk RX12 TX12 87 64 tyX12 true := ⟨tyX12_ok, nmX12, rfl⟩
theorem dX12_init_634 : decode cX12_init 634 = .ok (.aload_n 0, 1) := by decide +kernel
theorem dX12_init_635 : decode cX12_init 635 = .ok (.sipush 600, 3) := by decide +kernel
theorem dX12_init_638 : decode cX12_init 638 = .ok (.newarray .int, 2) := by decide +kernel
theorem dX12_init_640 : decode cX12_init 640 = .ok (.putfield 239, 3) := by decide +kernel
theorem pk_LandSurveyModel_65 : pk RX12 TX12 87 65 tyX12 true := ⟨tyX12_ok, nmX12, rfl⟩
theorem dX12_init_643 : decode cX12_init 643 = .ok (.aload_n 0, 1) := by decide +kernel
theorem dX12_init_644 : decode cX12_init 644 = .ok (.sipush 600, 3) := by decide +kernel
theorem dX12_init_647 : decode cX12_init 647 = .ok (.newarray .int, 2) := by decide +kernel
theorem dX12_init_649 : decode cX12_init 649 = .ok (.putfield 242, 3) := by decide +kernel
theorem pk_LandSurveyModel_66 : pk RX12 TX12 87 66 tyX12 true := ⟨tyX12_ok, nmX12, rfl⟩
theorem dX12_init_652 : decode cX12_init 652 = .ok (.aload_n 0, 1) := by decide +kernel
theorem dX12_init_653 : decode cX12_init 653 = .ok (.bipush 97, 2) := by decide +kernel
theorem dX12_init_655 : decode cX12_init 655 = .ok (.newarray .int, 2) := by decide +kernel
theorem dX12_init_657 : decode cX12_init 657 = .ok (.putfield 245, 3) := by decide +kernel
theorem pk_LandSurveyModel_67 : pk RX12 TX12 87 67 tyX12 true := ⟨tyX12_ok, nmX12, rfl⟩
theorem dX12_init_660 : decode cX12_init 660 = .ok (.aload_n 0, 1) := by decide +kernel
theorem dX12_init_661 : decode cX12_init 661 = .ok (.bipush 97, 2) := by decide +kernel
theorem dX12_init_663 : decode cX12_init 663 = .ok (.newarray .int, 2) := by decide +kernel
theorem dX12_init_665 : decode cX12_init 665 = .ok (.putfield 248, 3) := by decide +kernel
theorem pk_LandSurveyModel_68 : pk RX12 TX12 87 68 tyX12 true := ⟨tyX12_ok, nmX12, rfl⟩
theorem dX12_init_538 : decode cX12_init 538 = .ok (.aload_n 0, 1) := by decide +kernel
theorem dX12_init_539 : decode cX12_init 539 = .ok (.bipush 40, 2) := by decide +kernel
theorem dX12_init_541 : decode cX12_init 541 = .ok (.newarray .int, 2) := by decide +kernel
theorem dX12_init_543 : decode cX12_init 543 = .ok (.putfield 203, 3) := by decide +kernel
theorem pk_LandSurveyModel_51 : pk RX12 TX12 87 51 tyX12 true := ⟨tyX12_ok, nmX12, rfl⟩
theorem dX12_init_546 : decode cX12_init 546 = .ok (.aload_n 0, 1) := by decide +kernel
theorem dX12_init_547 : decode cX12_init 547 = .ok (.bipush 40, 2) := by decide +kernel
theorem dX12_init_549 : decode cX12_init 549 = .ok (.newarray .boolean, 2) := by decide +kernel
theorem dX12_init_551 : decode cX12_init 551 = .ok (.putfield 206, 3) := by decide +kernel
theorem pk_LandSurveyModel_52 : pk RX12 TX12 87 52 tyX12 true := ⟨tyX12_ok, nmX12, rfl⟩
theorem dX12_init_554 : decode cX12_init 554 = .ok (.aload_n 0, 1) := by decide +kernel
theorem dX12_init_555 : decode cX12_init 555 = .ok (.bipush 40, 2) := by decide +kernel
theorem dX12_init_557 : decode cX12_init 557 = .ok (.newarray .boolean, 2) := by decide +kernel
theorem dX12_init_559 : decode cX12_init 559 = .ok (.putfield 209, 3) := by decide +kernel
theorem pk_LandSurveyModel_53 : pk RX12 TX12 87 53 tyX12 true := ⟨tyX12_ok, nmX12, rfl⟩
theorem dX12_init_562 : decode cX12_init 562 = .ok (.aload_n 0, 1) := by decide +kernel
theorem dX12_init_563 : decode cX12_init 563 = .ok (.bipush 40, 2) := by decide +kernel
theorem dX12_init_565 : decode cX12_init 565 = .ok (.newarray .int, 2) := by decide +kernel
theorem dX12_init_567 : decode cX12_init 567 = .ok (.putfield 212, 3) := by decide +kernel
theorem pk_LandSurveyModel_54 : pk RX12 TX12 87 54 tyX12 true := ⟨tyX12_ok, nmX12, rfl⟩
theorem dX12_init_570 : decode cX12_init 570 = .ok (.aload_n 0, 1) := by decide +kernel
theorem dX12_init_571 : decode cX12_init 571 = .ok (.bipush 40, 2) := by decide +kernel
theorem dX12_init_573 : decode cX12_init 573 = .ok (.newarray .int, 2) := by decide +kernel
theorem dX12_init_575 : decode cX12_init 575 = .ok (.putfield 215, 3) := by decide +kernel
theorem pk_LandSurveyModel_55 : pk RX12 TX12 87 55 tyX12 true := ⟨tyX12_ok, nmX12, rfl⟩
theorem dX12_init_578 : decode cX12_init 578 = .ok (.aload_n 0, 1) := by decide +kernel
theorem dX12_init_579 : decode cX12_init 579 = .ok (.bipush 40, 2) := by decide +kernel
theorem dX12_init_581 : decode cX12_init 581 = .ok (.newarray .int, 2) := by decide +kernel
theorem dX12_init_583 : decode cX12_init 583 = .ok (.putfield 218, 3) := by decide +kernel
theorem pk_LandSurveyModel_56 : pk RX12 TX12 87 56 tyX12 true := ⟨tyX12_ok, nmX12, rfl⟩
theorem dX12_init_586 : decode cX12_init 586 = .ok (.aload_n 0, 1) := by decide +kernel
theorem dX12_init_587 : decode cX12_init 587 = .ok (.sipush 768, 3) := by decide +kernel
theorem dX12_init_590 : decode cX12_init 590 = .ok (.newarray .boolean, 2) := by decide +kernel
theorem dX12_init_592 : decode cX12_init 592 = .ok (.putfield 221, 3) := by decide +kernel
theorem pk_LandSurveyModel_58 : pk RX12 TX12 87 58 tyX12 true := ⟨tyX12_ok, nmX12, rfl⟩
theorem dX12_init_595 : decode cX12_init 595 = .ok (.aload_n 0, 1) := by decide +kernel
theorem dX12_init_596 : decode cX12_init 596 = .ok (.iconst 4, 1) := by decide +kernel
theorem dX12_init_597 : decode cX12_init 597 = .ok (.newarray .int, 2) := by decide +kernel
theorem dX12_init_599 : decode cX12_init 599 = .ok (.putfield 224, 3) := by decide +kernel
theorem pk_LandSurveyModel_59 : pk RX12 TX12 87 59 tyX12 true := ⟨tyX12_ok, nmX12, rfl⟩
theorem dX12_init_474 : decode cX12_init 474 = .ok (.aload_n 0, 1) := by decide +kernel
theorem dX12_init_475 : decode cX12_init 475 = .ok (.bipush 40, 2) := by decide +kernel
theorem dX12_init_477 : decode cX12_init 477 = .ok (.newarray .int, 2) := by decide +kernel
theorem dX12_init_479 : decode cX12_init 479 = .ok (.putfield 179, 3) := by decide +kernel
theorem pk_LandSurveyModel_43 : pk RX12 TX12 87 43 tyX12 true := ⟨tyX12_ok, nmX12, rfl⟩
theorem dX12_init_482 : decode cX12_init 482 = .ok (.aload_n 0, 1) := by decide +kernel
theorem dX12_init_483 : decode cX12_init 483 = .ok (.bipush 40, 2) := by decide +kernel
theorem dX12_init_485 : decode cX12_init 485 = .ok (.newarray .int, 2) := by decide +kernel
theorem dX12_init_487 : decode cX12_init 487 = .ok (.putfield 182, 3) := by decide +kernel
theorem pk_LandSurveyModel_44 : pk RX12 TX12 87 44 tyX12 true := ⟨tyX12_ok, nmX12, rfl⟩
theorem dX12_init_490 : decode cX12_init 490 = .ok (.aload_n 0, 1) := by decide +kernel
theorem dX12_init_491 : decode cX12_init 491 = .ok (.bipush 40, 2) := by decide +kernel
theorem dX12_init_493 : decode cX12_init 493 = .ok (.newarray .int, 2) := by decide +kernel
theorem dX12_init_495 : decode cX12_init 495 = .ok (.putfield 185, 3) := by decide +kernel
theorem pk_LandSurveyModel_45 : pk RX12 TX12 87 45 tyX12 true := ⟨tyX12_ok, nmX12, rfl⟩
theorem dX12_init_498 : decode cX12_init 498 = .ok (.aload_n 0, 1) := by decide +kernel
theorem dX12_init_499 : decode cX12_init 499 = .ok (.bipush 40, 2) := by decide +kernel
theorem dX12_init_501 : decode cX12_init 501 = .ok (.newarray .int, 2) := by decide +kernel
theorem dX12_init_503 : decode cX12_init 503 = .ok (.putfield 188, 3) := by decide +kernel
theorem pk_LandSurveyModel_46 : pk RX12 TX12 87 46 tyX12 true := ⟨tyX12_ok, nmX12, rfl⟩
theorem dX12_init_506 : decode cX12_init 506 = .ok (.aload_n 0, 1) := by decide +kernel
theorem dX12_init_507 : decode cX12_init 507 = .ok (.bipush 40, 2) := by decide +kernel
theorem dX12_init_509 : decode cX12_init 509 = .ok (.newarray .int, 2) := by decide +kernel
theorem dX12_init_511 : decode cX12_init 511 = .ok (.putfield 191, 3) := by decide +kernel
theorem pk_LandSurveyModel_47 : pk RX12 TX12 87 47 tyX12 true := ⟨tyX12_ok, nmX12, rfl⟩
theorem dX12_init_514 : decode cX12_init 514 = .ok (.aload_n 0, 1) := by decide +kernel
theorem dX12_init_515 : decode cX12_init 515 = .ok (.bipush 40, 2) := by decide +kernel
theorem dX12_init_517 : decode cX12_init 517 = .ok (.newarray .int, 2) := by decide +kernel
theorem dX12_init_519 : decode cX12_init 519 = .ok (.putfield 194, 3) := by decide +kernel
theorem pk_LandSurveyModel_48 : pk RX12 TX12 87 48 tyX12 true := ⟨tyX12_ok, nmX12, rfl⟩
theorem dX12_init_522 : decode cX12_init 522 = .ok (.aload_n 0, 1) := by decide +kernel
theorem dX12_init_523 : decode cX12_init 523 = .ok (.bipush 40, 2) := by decide +kernel
theorem dX12_init_525 : decode cX12_init 525 = .ok (.newarray .int, 2) := by decide +kernel
theorem dX12_init_527 : decode cX12_init 527 = .ok (.putfield 197, 3) := by decide +kernel
theorem pk_LandSurveyModel_49 : pk RX12 TX12 87 49 tyX12 true := ⟨tyX12_ok, nmX12, rfl⟩
theorem dX12_init_530 : decode cX12_init 530 = .ok (.aload_n 0, 1) := by decide +kernel
theorem dX12_init_531 : decode cX12_init 531 = .ok (.bipush 40, 2) := by decide +kernel
theorem dX12_init_533 : decode cX12_init 533 = .ok (.newarray .int, 2) := by decide +kernel
theorem dX12_init_535 : decode cX12_init 535 = .ok (.putfield 200, 3) := by decide +kernel
theorem pk_LandSurveyModel_50 : pk RX12 TX12 87 50 tyX12 true := ⟨tyX12_ok, nmX12, rfl⟩
theorem dX12_init_409 : decode cX12_init 409 = .ok (.aload_n 0, 1) := by decide +kernel
theorem dX12_init_410 : decode cX12_init 410 = .ok (.bipush 12, 2) := by decide +kernel
theorem dX12_init_412 : decode cX12_init 412 = .ok (.newarray .int, 2) := by decide +kernel
theorem dX12_init_414 : decode cX12_init 414 = .ok (.putfield 155, 3) := by decide +kernel
theorem pk_LandSurveyModel_31 : pk RX12 TX12 87 31 tyX12 true := ⟨tyX12_ok, nmX12, rfl⟩
theorem dX12_init_417 : decode cX12_init 417 = .ok (.aload_n 0, 1) := by decide +kernel
theorem dX12_init_418 : decode cX12_init 418 = .ok (.sipush 1600, 3) := by decide +kernel
theorem dX12_init_421 : decode cX12_init 421 = .ok (.newarray .int, 2) := by decide +kernel
theorem dX12_init_423 : decode cX12_init 423 = .ok (.putfield 158, 3) := by decide +kernel
theorem pk_LandSurveyModel_32 : pk RX12 TX12 87 32 tyX12 true := ⟨tyX12_ok, nmX12, rfl⟩
theorem dX12_init_426 : decode cX12_init 426 = .ok (.aload_n 0, 1) := by decide +kernel
theorem dX12_init_427 : decode cX12_init 427 = .ok (.bipush 96, 2) := by decide +kernel
theorem dX12_init_429 : decode cX12_init 429 = .ok (.newarray .int, 2) := by decide +kernel
theorem dX12_init_431 : decode cX12_init 431 = .ok (.putfield 161, 3) := by decide +kernel
theorem pk_LandSurveyModel_36 : pk RX12 TX12 87 36 tyX12 true := ⟨tyX12_ok, nmX12, rfl⟩
theorem dX12_init_434 : decode cX12_init 434 = .ok (.aload_n 0, 1) := by decide +kernel
theorem dX12_init_435 : decode cX12_init 435 = .ok (.bipush 96, 2) := by decide +kernel
theorem dX12_init_437 : decode cX12_init 437 = .ok (.newarray .boolean, 2) := by decide +kernel
theorem dX12_init_439 : decode cX12_init 439 = .ok (.putfield 164, 3) := by decide +kernel
theorem pk_LandSurveyModel_37 : pk RX12 TX12 87 37 tyX12 true := ⟨tyX12_ok, nmX12, rfl⟩
theorem dX12_init_442 : decode cX12_init 442 = .ok (.aload_n 0, 1) := by decide +kernel
theorem dX12_init_443 : decode cX12_init 443 = .ok (.bipush 96, 2) := by decide +kernel
theorem dX12_init_445 : decode cX12_init 445 = .ok (.newarray .boolean, 2) := by decide +kernel
theorem dX12_init_447 : decode cX12_init 447 = .ok (.putfield 167, 3) := by decide +kernel
theorem pk_LandSurveyModel_38 : pk RX12 TX12 87 38 tyX12 true := ⟨tyX12_ok, nmX12, rfl⟩
theorem dX12_init_450 : decode cX12_init 450 = .ok (.aload_n 0, 1) := by decide +kernel
theorem dX12_init_451 : decode cX12_init 451 = .ok (.bipush 96, 2) := by decide +kernel
theorem dX12_init_453 : decode cX12_init 453 = .ok (.newarray .int, 2) := by decide +kernel
theorem dX12_init_455 : decode cX12_init 455 = .ok (.putfield 170, 3) := by decide +kernel
theorem pk_LandSurveyModel_39 : pk RX12 TX12 87 39 tyX12 true := ⟨tyX12_ok, nmX12, rfl⟩
theorem dX12_init_458 : decode cX12_init 458 = .ok (.aload_n 0, 1) := by decide +kernel
theorem dX12_init_459 : decode cX12_init 459 = .ok (.bipush 40, 2) := by decide +kernel
theorem dX12_init_461 : decode cX12_init 461 = .ok (.newarray .int, 2) := by decide +kernel
theorem dX12_init_463 : decode cX12_init 463 = .ok (.putfield 173, 3) := by decide +kernel
theorem pk_LandSurveyModel_41 : pk RX12 TX12 87 41 tyX12 true := ⟨tyX12_ok, nmX12, rfl⟩
theorem dX12_init_466 : decode cX12_init 466 = .ok (.aload_n 0, 1) := by decide +kernel
theorem dX12_init_467 : decode cX12_init 467 = .ok (.bipush 40, 2) := by decide +kernel
theorem dX12_init_469 : decode cX12_init 469 = .ok (.newarray .int, 2) := by decide +kernel
theorem dX12_init_471 : decode cX12_init 471 = .ok (.putfield 176, 3) := by decide +kernel
theorem pk_LandSurveyModel_42 : pk RX12 TX12 87 42 tyX12 true := ⟨tyX12_ok, nmX12, rfl⟩
theorem dX12_init_340 : decode cX12_init 340 = .ok (.aload_n 0, 1) := by decide +kernel
theorem dX12_init_341 : decode cX12_init 341 = .ok (.bipush 90, 2) := by decide +kernel
theorem dX12_init_343 : decode cX12_init 343 = .ok (.newarray .int, 2) := by decide +kernel
theorem dX12_init_345 : decode cX12_init 345 = .ok (.putfield 131, 3) := by decide +kernel
theorem pk_LandSurveyModel_22 : pk RX12 TX12 87 22 tyX12 true := ⟨tyX12_ok, nmX12, rfl⟩
theorem dX12_init_348 : decode cX12_init 348 = .ok (.aload_n 0, 1) := by decide +kernel
theorem dX12_init_349 : decode cX12_init 349 = .ok (.bipush 90, 2) := by decide +kernel
theorem dX12_init_351 : decode cX12_init 351 = .ok (.newarray .int, 2) := by decide +kernel
theorem dX12_init_353 : decode cX12_init 353 = .ok (.putfield 134, 3) := by decide +kernel
theorem pk_LandSurveyModel_23 : pk RX12 TX12 87 23 tyX12 true := ⟨tyX12_ok, nmX12, rfl⟩
theorem dX12_init_356 : decode cX12_init 356 = .ok (.aload_n 0, 1) := by decide +kernel
theorem dX12_init_357 : decode cX12_init 357 = .ok (.bipush 9, 2) := by decide +kernel
theorem dX12_init_359 : decode cX12_init 359 = .ok (.newarray .int, 2) := by decide +kernel
theorem dX12_init_361 : decode cX12_init 361 = .ok (.putfield 137, 3) := by decide +kernel
theorem pk_LandSurveyModel_24 : pk RX12 TX12 87 24 tyX12 true := ⟨tyX12_ok, nmX12, rfl⟩
theorem dX12_init_364 : decode cX12_init 364 = .ok (.aload_n 0, 1) := by decide +kernel
theorem dX12_init_365 : decode cX12_init 365 = .ok (.sipush 216, 3) := by decide +kernel
theorem dX12_init_368 : decode cX12_init 368 = .ok (.newarray .int, 2) := by decide +kernel
theorem dX12_init_370 : decode cX12_init 370 = .ok (.putfield 140, 3) := by decide +kernel
theorem pk_LandSurveyModel_25 : pk RX12 TX12 87 25 tyX12 true := ⟨tyX12_ok, nmX12, rfl⟩
theorem dX12_init_373 : decode cX12_init 373 = .ok (.aload_n 0, 1) := by decide +kernel
theorem dX12_init_374 : decode cX12_init 374 = .ok (.sipush 216, 3) := by decide +kernel
theorem dX12_init_377 : decode cX12_init 377 = .ok (.newarray .int, 2) := by decide +kernel
theorem dX12_init_379 : decode cX12_init 379 = .ok (.putfield 143, 3) := by decide +kernel
theorem pk_LandSurveyModel_26 : pk RX12 TX12 87 26 tyX12 true := ⟨tyX12_ok, nmX12, rfl⟩
theorem dX12_init_382 : decode cX12_init 382 = .ok (.aload_n 0, 1) := by decide +kernel
theorem dX12_init_383 : decode cX12_init 383 = .ok (.sipush 216, 3) := by decide +kernel
theorem dX12_init_386 : decode cX12_init 386 = .ok (.newarray .int, 2) := by decide +kernel
theorem dX12_init_388 : decode cX12_init 388 = .ok (.putfield 146, 3) := by decide +kernel
theorem pk_LandSurveyModel_27 : pk RX12 TX12 87 27 tyX12 true := ⟨tyX12_ok, nmX12, rfl⟩
theorem dX12_init_391 : decode cX12_init 391 = .ok (.aload_n 0, 1) := by decide +kernel
theorem dX12_init_392 : decode cX12_init 392 = .ok (.sipush 14400, 3) := by decide +kernel
theorem dX12_init_395 : decode cX12_init 395 = .ok (.newarray .int, 2) := by decide +kernel
theorem dX12_init_397 : decode cX12_init 397 = .ok (.putfield 149, 3) := by decide +kernel
theorem pk_LandSurveyModel_29 : pk RX12 TX12 87 29 tyX12 true := ⟨tyX12_ok, nmX12, rfl⟩
theorem dX12_init_400 : decode cX12_init 400 = .ok (.aload_n 0, 1) := by decide +kernel
theorem dX12_init_401 : decode cX12_init 401 = .ok (.sipush 14400, 3) := by decide +kernel
theorem dX12_init_404 : decode cX12_init 404 = .ok (.newarray .int, 2) := by decide +kernel
theorem dX12_init_406 : decode cX12_init 406 = .ok (.putfield 152, 3) := by decide +kernel
theorem pk_LandSurveyModel_30 : pk RX12 TX12 87 30 tyX12 true := ⟨tyX12_ok, nmX12, rfl⟩
theorem dX12_init_276 : decode cX12_init 276 = .ok (.aload_n 0, 1) := by decide +kernel
theorem dX12_init_277 : decode cX12_init 277 = .ok (.bipush 90, 2) := by decide +kernel
theorem dX12_init_279 : decode cX12_init 279 = .ok (.newarray .int, 2) := by decide +kernel
theorem dX12_init_281 : decode cX12_init 281 = .ok (.putfield 106, 3) := by decide +kernel
theorem pk_LandSurveyModel_14 : pk RX12 TX12 87 14 tyX12 true := ⟨tyX12_ok, nmX12, rfl⟩
theorem dX12_init_284 : decode cX12_init 284 = .ok (.aload_n 0, 1) := by decide +kernel
theorem dX12_init_285 : decode cX12_init 285 = .ok (.bipush 90, 2) := by decide +kernel
theorem dX12_init_287 : decode cX12_init 287 = .ok (.newarray .int, 2) := by decide +kernel
theorem dX12_init_289 : decode cX12_init 289 = .ok (.putfield 109, 3) := by decide +kernel
theorem pk_LandSurveyModel_15 : pk RX12 TX12 87 15 tyX12 true := ⟨tyX12_ok, nmX12, rfl⟩
theorem dX12_init_292 : decode cX12_init 292 = .ok (.aload_n 0, 1) := by decide +kernel
theorem dX12_init_293 : decode cX12_init 293 = .ok (.bipush 90, 2) := by decide +kernel
theorem dX12_init_295 : decode cX12_init 295 = .ok (.newarray .boolean, 2) := by decide +kernel
theorem dX12_init_297 : decode cX12_init 297 = .ok (.putfield 112, 3) := by decide +kernel
theorem pk_LandSurveyModel_16 : pk RX12 TX12 87 16 tyX12 true := ⟨tyX12_ok, nmX12, rfl⟩
theorem dX12_init_300 : decode cX12_init 300 = .ok (.aload_n 0, 1) := by decide +kernel
theorem dX12_init_301 : decode cX12_init 301 = .ok (.bipush 90, 2) := by decide +kernel
theorem dX12_init_303 : decode cX12_init 303 = .ok (.newarray .boolean, 2) := by decide +kernel
theorem dX12_init_305 : decode cX12_init 305 = .ok (.putfield 116, 3) := by decide +kernel
theorem pk_LandSurveyModel_17 : pk RX12 TX12 87 17 tyX12 true := ⟨tyX12_ok, nmX12, rfl⟩
theorem dX12_init_308 : decode cX12_init 308 = .ok (.aload_n 0, 1) := by decide +kernel
theorem dX12_init_309 : decode cX12_init 309 = .ok (.bipush 9, 2) := by decide +kernel
theorem dX12_init_311 : decode cX12_init 311 = .ok (.newarray .boolean, 2) := by decide +kernel
theorem dX12_init_313 : decode cX12_init 313 = .ok (.putfield 119, 3) := by decide +kernel
theorem pk_LandSurveyModel_18 : pk RX12 TX12 87 18 tyX12 true := ⟨tyX12_ok, nmX12, rfl⟩
theorem dX12_init_316 : decode cX12_init 316 = .ok (.aload_n 0, 1) := by decide +kernel
theorem dX12_init_317 : decode cX12_init 317 = .ok (.bipush 9, 2) := by decide +kernel
theorem dX12_init_319 : decode cX12_init 319 = .ok (.newarray .int, 2) := by decide +kernel
theorem dX12_init_321 : decode cX12_init 321 = .ok (.putfield 122, 3) := by decide +kernel
theorem pk_LandSurveyModel_19 : pk RX12 TX12 87 19 tyX12 true := ⟨tyX12_ok, nmX12, rfl⟩
theorem dX12_init_324 : decode cX12_init 324 = .ok (.aload_n 0, 1) := by decide +kernel
theorem dX12_init_325 : decode cX12_init 325 = .ok (.bipush 9, 2) := by decide +kernel
theorem dX12_init_327 : decode cX12_init 327 = .ok (.newarray .boolean, 2) := by decide +kernel
theorem dX12_init_329 : decode cX12_init 329 = .ok (.putfield 125, 3) := by decide +kernel
theorem pk_LandSurveyModel_20 : pk RX12 TX12 87 20 tyX12 true := ⟨tyX12_ok, nmX12, rfl⟩
theorem dX12_init_332 : decode cX12_init 332 = .ok (.aload_n 0, 1) := by decide +kernel
theorem dX12_init_333 : decode cX12_init 333 = .ok (.bipush 9, 2) := by decide +kernel
theorem dX12_init_335 : decode cX12_init 335 = .ok (.newarray .int, 2) := by decide +kernel
theorem dX12_init_337 : decode cX12_init 337 = .ok (.putfield 128, 3) := by decide +kernel
theorem pk_LandSurveyModel_21 : pk RX12 TX12 87 21 tyX12 true := ⟨tyX12_ok, nmX12, rfl⟩
theorem dX12_init_0 : decode cX12_init 0 = .ok (.aload_n 0, 1) := by decide +kernel
theorem dX12_init_1 : decode cX12_init 1 = .ok (.invokespecial 18, 3) := by decide +kernel
theorem kw_1475 : Cond.methodLink "LandSurveyModel" 18 (⟨"java/lang/Object", "<init>", "()V"⟩ : MethodName) ∈ uu := uu_in (i := 1475) (by decide +kernel) (by decide +kernel)
theorem dX12_init_4 : decode cX12_init 4 = .ok (.aload_n 0, 1) := by decide +kernel
theorem dX12_init_5 : decode cX12_init 5 = .ok (.sipush 1500, 3) := by decide +kernel
theorem dX12_init_8 : decode cX12_init 8 = .ok (.newarray .int, 2) := by decide +kernel
theorem dX12_init_10 : decode cX12_init 10 = .ok (.putfield 14, 3) := by decide +kernel
theorem pk_LandSurveyModel_1 : pk RX12 TX12 87 1 tyX12 true := ⟨tyX12_ok, nmX12, rfl⟩
theorem dX12_init_13 : decode cX12_init 13 = .ok (.aload_n 0, 1) := by decide +kernel
theorem dX12_init_14 : decode cX12_init 14 = .ok (.sipush 1502, 3) := by decide +kernel
theorem dX12_init_17 : decode cX12_init 17 = .ok (.newarray .int, 2) := by decide +kernel
theorem dX12_init_19 : decode cX12_init 19 = .ok (.putfield 24, 3) := by decide +kernel
theorem pk_LandSurveyModel_4 : pk RX12 TX12 87 4 tyX12 true := ⟨tyX12_ok, nmX12, rfl⟩
theorem dX12_init_22 : decode cX12_init 22 = .ok (.aload_n 0, 1) := by decide +kernel
theorem dX12_init_23 : decode cX12_init 23 = .ok (.sipush 1502, 3) := by decide +kernel
theorem dX12_init_26 : decode cX12_init 26 = .ok (.newarray .int, 2) := by decide +kernel
theorem dX12_init_28 : decode cX12_init 28 = .ok (.putfield 27, 3) := by decide +kernel
theorem pk_LandSurveyModel_5 : pk RX12 TX12 87 5 tyX12 true := ⟨tyX12_ok, nmX12, rfl⟩
theorem dX12_init_31 : decode cX12_init 31 = .ok (.aload_n 0, 1) := by decide +kernel
theorem dX12_init_32 : decode cX12_init 32 = .ok (.sipush 1502, 3) := by decide +kernel
theorem dX12_init_35 : decode cX12_init 35 = .ok (.newarray .long, 2) := by decide +kernel
theorem dX12_init_37 : decode cX12_init 37 = .ok (.putfield 30, 3) := by decide +kernel
theorem pk_LandSurveyModel_6 : pk RX12 TX12 87 6 tyX12 true := ⟨tyX12_ok, nmX12, rfl⟩
theorem dX12_init_40 : decode cX12_init 40 = .ok (.aload_n 0, 1) := by decide +kernel
theorem dX12_init_41 : decode cX12_init 41 = .ok (.bipush 30, 2) := by decide +kernel
theorem dX12_init_43 : decode cX12_init 43 = .ok (.newarray .long, 2) := by decide +kernel
theorem dX12_init_45 : decode cX12_init 45 = .ok (.dup, 1) := by decide +kernel
theorem dX12_init_46 : decode cX12_init 46 = .ok (.iconst 0, 1) := by decide +kernel
theorem dX12_init_47 : decode cX12_init 47 = .ok (.ldc2_w 34, 3) := by decide +kernel
theorem kw_1476 : Cond.constantLong "LandSurveyModel" 34 (932411) ∈ uu := uu_in (i := 1476) (by decide +kernel) (by decide +kernel)
theorem dX12_init_50 : decode cX12_init 50 = .ok (.lastore, 1) := by decide +kernel
theorem dX12_init_51 : decode cX12_init 51 = .ok (.dup, 1) := by decide +kernel
theorem dX12_init_52 : decode cX12_init 52 = .ok (.iconst 1, 1) := by decide +kernel
theorem dX12_init_53 : decode cX12_init 53 = .ok (.ldc2_w 36, 3) := by decide +kernel
theorem kw_1477 : Cond.constantLong "LandSurveyModel" 36 (710997) ∈ uu := uu_in (i := 1477) (by decide +kernel) (by decide +kernel)
theorem dX12_init_56 : decode cX12_init 56 = .ok (.lastore, 1) := by decide +kernel
theorem dX12_init_57 : decode cX12_init 57 = .ok (.dup, 1) := by decide +kernel
theorem dX12_init_58 : decode cX12_init 58 = .ok (.iconst 2, 1) := by decide +kernel
theorem dX12_init_59 : decode cX12_init 59 = .ok (.ldc2_w 38, 3) := by decide +kernel
theorem kw_1478 : Cond.constantLong "LandSurveyModel" 38 (913652) ∈ uu := uu_in (i := 1478) (by decide +kernel) (by decide +kernel)
theorem dX12_init_62 : decode cX12_init 62 = .ok (.lastore, 1) := by decide +kernel
theorem dX12_init_63 : decode cX12_init 63 = .ok (.dup, 1) := by decide +kernel
theorem dX12_init_64 : decode cX12_init 64 = .ok (.iconst 3, 1) := by decide +kernel
theorem dX12_init_65 : decode cX12_init 65 = .ok (.ldc2_w 40, 3) := by decide +kernel
theorem kw_1479 : Cond.constantLong "LandSurveyModel" 40 (227314) ∈ uu := uu_in (i := 1479) (by decide +kernel) (by decide +kernel)
theorem dX12_init_68 : decode cX12_init 68 = .ok (.lastore, 1) := by decide +kernel
theorem dX12_init_69 : decode cX12_init 69 = .ok (.dup, 1) := by decide +kernel
theorem dX12_init_70 : decode cX12_init 70 = .ok (.iconst 4, 1) := by decide +kernel
theorem dX12_init_71 : decode cX12_init 71 = .ok (.ldc2_w 42, 3) := by decide +kernel
theorem kw_1480 : Cond.constantLong "LandSurveyModel" 42 (36629165) ∈ uu := uu_in (i := 1480) (by decide +kernel) (by decide +kernel)
theorem dX12_init_74 : decode cX12_init 74 = .ok (.lastore, 1) := by decide +kernel
theorem dX12_init_75 : decode cX12_init 75 = .ok (.dup, 1) := by decide +kernel
theorem dX12_init_76 : decode cX12_init 76 = .ok (.iconst 5, 1) := by decide +kernel
theorem dX12_init_77 : decode cX12_init 77 = .ok (.ldc2_w 44, 3) := by decide +kernel
theorem kw_1481 : Cond.constantLong "LandSurveyModel" 44 (8420961) ∈ uu := uu_in (i := 1481) (by decide +kernel) (by decide +kernel)
theorem dX12_init_80 : decode cX12_init 80 = .ok (.lastore, 1) := by decide +kernel
theorem dX12_init_81 : decode cX12_init 81 = .ok (.dup, 1) := by decide +kernel
theorem dX12_init_82 : decode cX12_init 82 = .ok (.bipush 6, 2) := by decide +kernel
theorem dX12_init_84 : decode cX12_init 84 = .ok (.ldc2_w 46, 3) := by decide +kernel
theorem kw_1482 : Cond.constantLong "LandSurveyModel" 46 (15769678) ∈ uu := uu_in (i := 1482) (by decide +kernel) (by decide +kernel)
theorem dX12_init_87 : decode cX12_init 87 = .ok (.lastore, 1) := by decide +kernel
theorem dX12_init_88 : decode cX12_init 88 = .ok (.dup, 1) := by decide +kernel
theorem dX12_init_89 : decode cX12_init 89 = .ok (.bipush 7, 2) := by decide +kernel
theorem dX12_init_91 : decode cX12_init 91 = .ok (.ldc2_w 48, 3) := by decide +kernel
theorem kw_1483 : Cond.constantLong "LandSurveyModel" 48 (37948996) ∈ uu := uu_in (i := 1483) (by decide +kernel) (by decide +kernel)
theorem dX12_init_94 : decode cX12_init 94 = .ok (.lastore, 1) := by decide +kernel
theorem dX12_init_95 : decode cX12_init 95 = .ok (.dup, 1) := by decide +kernel
theorem dX12_init_96 : decode cX12_init 96 = .ok (.bipush 8, 2) := by decide +kernel
theorem dX12_init_98 : decode cX12_init 98 = .ok (.ldc2_w 50, 3) := by decide +kernel
theorem kw_1484 : Cond.constantLong "LandSurveyModel" 50 (1258222236) ∈ uu := uu_in (i := 1484) (by decide +kernel) (by decide +kernel)
theorem dX12_init_101 : decode cX12_init 101 = .ok (.lastore, 1) := by decide +kernel
theorem dX12_init_102 : decode cX12_init 102 = .ok (.dup, 1) := by decide +kernel
theorem dX12_init_103 : decode cX12_init 103 = .ok (.bipush 9, 2) := by decide +kernel
theorem dX12_init_105 : decode cX12_init 105 = .ok (.ldc2_w 52, 3) := by decide +kernel
theorem kw_1485 : Cond.constantLong "LandSurveyModel" 52 (755) ∈ uu := uu_in (i := 1485) (by decide +kernel) (by decide +kernel)
theorem dX12_init_108 : decode cX12_init 108 = .ok (.lastore, 1) := by decide +kernel
theorem dX12_init_109 : decode cX12_init 109 = .ok (.dup, 1) := by decide +kernel
theorem dX12_init_110 : decode cX12_init 110 = .ok (.bipush 10, 2) := by decide +kernel
theorem dX12_init_112 : decode cX12_init 112 = .ok (.ldc2_w 54, 3) := by decide +kernel
theorem kw_1486 : Cond.constantLong "LandSurveyModel" 54 (329128) ∈ uu := uu_in (i := 1486) (by decide +kernel) (by decide +kernel)
theorem dX12_init_115 : decode cX12_init 115 = .ok (.lastore, 1) := by decide +kernel
theorem dX12_init_116 : decode cX12_init 116 = .ok (.dup, 1) := by decide +kernel
theorem dX12_init_117 : decode cX12_init 117 = .ok (.bipush 11, 2) := by decide +kernel
theorem dX12_init_119 : decode cX12_init 119 = .ok (.ldc2_w 56, 3) := by decide +kernel
theorem kw_1487 : Cond.constantLong "LandSurveyModel" 56 (1176170) ∈ uu := uu_in (i := 1487) (by decide +kernel) (by decide +kernel)
theorem dX12_init_122 : decode cX12_init 122 = .ok (.lastore, 1) := by decide +kernel
theorem dX12_init_123 : decode cX12_init 123 = .ok (.dup, 1) := by decide +kernel
theorem dX12_init_124 : decode cX12_init 124 = .ok (.bipush 12, 2) := by decide +kernel
theorem dX12_init_126 : decode cX12_init 126 = .ok (.ldc2_w 58, 3) := by decide +kernel
theorem kw_1488 : Cond.constantLong "LandSurveyModel" 58 (333123) ∈ uu := uu_in (i := 1488) (by decide +kernel) (by decide +kernel)
theorem dX12_init_129 : decode cX12_init 129 = .ok (.lastore, 1) := by decide +kernel
theorem dX12_init_130 : decode cX12_init 130 = .ok (.dup, 1) := by decide +kernel
theorem dX12_init_131 : decode cX12_init 131 = .ok (.bipush 13, 2) := by decide +kernel
theorem dX12_init_133 : decode cX12_init 133 = .ok (.ldc2_w 60, 3) := by decide +kernel
theorem kw_1489 : Cond.constantLong "LandSurveyModel" 60 (173197865) ∈ uu := uu_in (i := 1489) (by decide +kernel) (by decide +kernel)
theorem dX12_init_136 : decode cX12_init 136 = .ok (.lastore, 1) := by decide +kernel
theorem dX12_init_137 : decode cX12_init 137 = .ok (.dup, 1) := by decide +kernel
theorem dX12_init_138 : decode cX12_init 138 = .ok (.bipush 14, 2) := by decide +kernel
theorem dX12_init_140 : decode cX12_init 140 = .ok (.ldc2_w 62, 3) := by decide +kernel
theorem kw_1490 : Cond.constantLong "LandSurveyModel" 62 (306528872) ∈ uu := uu_in (i := 1490) (by decide +kernel) (by decide +kernel)
theorem dX12_init_143 : decode cX12_init 143 = .ok (.lastore, 1) := by decide +kernel
theorem dX12_init_144 : decode cX12_init 144 = .ok (.dup, 1) := by decide +kernel
theorem dX12_init_145 : decode cX12_init 145 = .ok (.bipush 15, 2) := by decide +kernel
theorem dX12_init_147 : decode cX12_init 147 = .ok (.ldc2_w 64, 3) := by decide +kernel
theorem kw_1491 : Cond.constantLong "LandSurveyModel" 64 (1891) ∈ uu := uu_in (i := 1491) (by decide +kernel) (by decide +kernel)
theorem dX12_init_150 : decode cX12_init 150 = .ok (.lastore, 1) := by decide +kernel
theorem dX12_init_151 : decode cX12_init 151 = .ok (.dup, 1) := by decide +kernel
theorem dX12_init_152 : decode cX12_init 152 = .ok (.bipush 16, 2) := by decide +kernel
theorem dX12_init_154 : decode cX12_init 154 = .ok (.ldc2_w 66, 3) := by decide +kernel
theorem kw_1492 : Cond.constantLong "LandSurveyModel" 66 (573) ∈ uu := uu_in (i := 1492) (by decide +kernel) (by decide +kernel)
theorem dX12_init_157 : decode cX12_init 157 = .ok (.lastore, 1) := by decide +kernel
theorem dX12_init_158 : decode cX12_init 158 = .ok (.dup, 1) := by decide +kernel
theorem dX12_init_159 : decode cX12_init 159 = .ok (.bipush 17, 2) := by decide +kernel
theorem dX12_init_161 : decode cX12_init 161 = .ok (.ldc2_w 68, 3) := by decide +kernel
theorem kw_1493 : Cond.constantLong "LandSurveyModel" 68 (19741) ∈ uu := uu_in (i := 1493) (by decide +kernel) (by decide +kernel)
theorem dX12_init_164 : decode cX12_init 164 = .ok (.lastore, 1) := by decide +kernel
theorem dX12_init_165 : decode cX12_init 165 = .ok (.dup, 1) := by decide +kernel
theorem dX12_init_166 : decode cX12_init 166 = .ok (.bipush 18, 2) := by decide +kernel
theorem dX12_init_168 : decode cX12_init 168 = .ok (.ldc2_w 70, 3) := by decide +kernel
theorem kw_1494 : Cond.constantLong "LandSurveyModel" 70 (236773452) ∈ uu := uu_in (i := 1494) (by decide +kernel) (by decide +kernel)
theorem dX12_init_171 : decode cX12_init 171 = .ok (.lastore, 1) := by decide +kernel
theorem dX12_init_172 : decode cX12_init 172 = .ok (.dup, 1) := by decide +kernel
theorem dX12_init_173 : decode cX12_init 173 = .ok (.bipush 19, 2) := by decide +kernel
theorem dX12_init_175 : decode cX12_init 175 = .ok (.ldc2_w 72, 3) := by decide +kernel
theorem kw_1495 : Cond.constantLong "LandSurveyModel" 72 (14032597) ∈ uu := uu_in (i := 1495) (by decide +kernel) (by decide +kernel)
theorem dX12_init_178 : decode cX12_init 178 = .ok (.lastore, 1) := by decide +kernel
theorem dX12_init_179 : decode cX12_init 179 = .ok (.dup, 1) := by decide +kernel
theorem dX12_init_180 : decode cX12_init 180 = .ok (.bipush 20, 2) := by decide +kernel
theorem dX12_init_182 : decode cX12_init 182 = .ok (.ldc2_w 74, 3) := by decide +kernel
theorem kw_1496 : Cond.constantLong "LandSurveyModel" 74 (407263) ∈ uu := uu_in (i := 1496) (by decide +kernel) (by decide +kernel)
theorem dX12_init_185 : decode cX12_init 185 = .ok (.lastore, 1) := by decide +kernel
theorem dX12_init_186 : decode cX12_init 186 = .ok (.dup, 1) := by decide +kernel
theorem dX12_init_187 : decode cX12_init 187 = .ok (.bipush 21, 2) := by decide +kernel
theorem dX12_init_189 : decode cX12_init 189 = .ok (.ldc2_w 76, 3) := by decide +kernel
theorem kw_1497 : Cond.constantLong "LandSurveyModel" 76 (317227) ∈ uu := uu_in (i := 1497) (by decide +kernel) (by decide +kernel)
theorem dX12_init_192 : decode cX12_init 192 = .ok (.lastore, 1) := by decide +kernel
theorem dX12_init_193 : decode cX12_init 193 = .ok (.dup, 1) := by decide +kernel
theorem dX12_init_194 : decode cX12_init 194 = .ok (.bipush 22, 2) := by decide +kernel
theorem dX12_init_196 : decode cX12_init 196 = .ok (.ldc2_w 78, 3) := by decide +kernel
theorem kw_1498 : Cond.constantLong "LandSurveyModel" 78 (570026) ∈ uu := uu_in (i := 1498) (by decide +kernel) (by decide +kernel)
theorem dX12_init_199 : decode cX12_init 199 = .ok (.lastore, 1) := by decide +kernel
theorem dX12_init_200 : decode cX12_init 200 = .ok (.dup, 1) := by decide +kernel
theorem dX12_init_201 : decode cX12_init 201 = .ok (.bipush 23, 2) := by decide +kernel
theorem dX12_init_203 : decode cX12_init 203 = .ok (.ldc2_w 80, 3) := by decide +kernel
theorem kw_1499 : Cond.constantLong "LandSurveyModel" 80 (407115) ∈ uu := uu_in (i := 1499) (by decide +kernel) (by decide +kernel)
theorem dX12_init_206 : decode cX12_init 206 = .ok (.lastore, 1) := by decide +kernel
theorem dX12_init_207 : decode cX12_init 207 = .ok (.dup, 1) := by decide +kernel
theorem dX12_init_208 : decode cX12_init 208 = .ok (.bipush 24, 2) := by decide +kernel
theorem dX12_init_210 : decode cX12_init 210 = .ok (.ldc2_w 82, 3) := by decide +kernel
theorem kw_1500 : Cond.constantLong "LandSurveyModel" 82 (7772561) ∈ uu := uu_in (i := 1500) (by decide +kernel) (by decide +kernel)
theorem dX12_init_213 : decode cX12_init 213 = .ok (.lastore, 1) := by decide +kernel
theorem dX12_init_214 : decode cX12_init 214 = .ok (.dup, 1) := by decide +kernel
theorem dX12_init_215 : decode cX12_init 215 = .ok (.bipush 25, 2) := by decide +kernel
theorem dX12_init_217 : decode cX12_init 217 = .ok (.ldc2_w 84, 3) := by decide +kernel
theorem kw_1501 : Cond.constantLong "LandSurveyModel" 84 (564588237) ∈ uu := uu_in (i := 1501) (by decide +kernel) (by decide +kernel)
theorem dX12_init_220 : decode cX12_init 220 = .ok (.lastore, 1) := by decide +kernel
theorem dX12_init_221 : decode cX12_init 221 = .ok (.dup, 1) := by decide +kernel
theorem dX12_init_222 : decode cX12_init 222 = .ok (.bipush 26, 2) := by decide +kernel
theorem dX12_init_224 : decode cX12_init 224 = .ok (.ldc2_w 86, 3) := by decide +kernel
theorem kw_1502 : Cond.constantLong "LandSurveyModel" 86 (2253564) ∈ uu := uu_in (i := 1502) (by decide +kernel) (by decide +kernel)
theorem dX12_init_227 : decode cX12_init 227 = .ok (.lastore, 1) := by decide +kernel
theorem dX12_init_228 : decode cX12_init 228 = .ok (.dup, 1) := by decide +kernel
theorem dX12_init_229 : decode cX12_init 229 = .ok (.bipush 27, 2) := by decide +kernel
theorem dX12_init_231 : decode cX12_init 231 = .ok (.ldc2_w 88, 3) := by decide +kernel
theorem kw_1503 : Cond.constantLong "LandSurveyModel" 88 (2686664) ∈ uu := uu_in (i := 1503) (by decide +kernel) (by decide +kernel)
theorem dX12_init_234 : decode cX12_init 234 = .ok (.lastore, 1) := by decide +kernel
theorem dX12_init_235 : decode cX12_init 235 = .ok (.dup, 1) := by decide +kernel
theorem dX12_init_236 : decode cX12_init 236 = .ok (.bipush 28, 2) := by decide +kernel
theorem dX12_init_238 : decode cX12_init 238 = .ok (.ldc2_w 90, 3) := by decide +kernel
theorem kw_1504 : Cond.constantLong "LandSurveyModel" 90 (964262) ∈ uu := uu_in (i := 1504) (by decide +kernel) (by decide +kernel)
theorem dX12_init_241 : decode cX12_init 241 = .ok (.lastore, 1) := by decide +kernel
theorem dX12_init_242 : decode cX12_init 242 = .ok (.dup, 1) := by decide +kernel
theorem dX12_init_243 : decode cX12_init 243 = .ok (.bipush 29, 2) := by decide +kernel
theorem dX12_init_245 : decode cX12_init 245 = .ok (.ldc2_w 92, 3) := by decide +kernel
theorem kw_1505 : Cond.constantLong "LandSurveyModel" 92 (564640) ∈ uu := uu_in (i := 1505) (by decide +kernel) (by decide +kernel)
theorem dX12_init_248 : decode cX12_init 248 = .ok (.lastore, 1) := by decide +kernel
theorem dX12_init_249 : decode cX12_init 249 = .ok (.putfield 94, 3) := by decide +kernel
theorem pk_LandSurveyModel_9 : pk RX12 TX12 87 9 tyX12 true := ⟨tyX12_ok, nmX12, rfl⟩
theorem dX12_init_252 : decode cX12_init 252 = .ok (.aload_n 0, 1) := by decide +kernel
theorem dX12_init_253 : decode cX12_init 253 = .ok (.bipush 9, 2) := by decide +kernel
theorem dX12_init_255 : decode cX12_init 255 = .ok (.newarray .int, 2) := by decide +kernel
theorem dX12_init_257 : decode cX12_init 257 = .ok (.putfield 97, 3) := by decide +kernel
theorem pk_LandSurveyModel_11 : pk RX12 TX12 87 11 tyX12 true := ⟨tyX12_ok, nmX12, rfl⟩
theorem dX12_init_260 : decode cX12_init 260 = .ok (.aload_n 0, 1) := by decide +kernel
theorem dX12_init_261 : decode cX12_init 261 = .ok (.bipush 9, 2) := by decide +kernel
theorem dX12_init_263 : decode cX12_init 263 = .ok (.newarray .int, 2) := by decide +kernel
theorem dX12_init_265 : decode cX12_init 265 = .ok (.putfield 100, 3) := by decide +kernel
theorem pk_LandSurveyModel_12 : pk RX12 TX12 87 12 tyX12 true := ⟨tyX12_ok, nmX12, rfl⟩
theorem dX12_init_268 : decode cX12_init 268 = .ok (.aload_n 0, 1) := by decide +kernel
theorem dX12_init_269 : decode cX12_init 269 = .ok (.bipush 90, 2) := by decide +kernel
theorem dX12_init_271 : decode cX12_init 271 = .ok (.newarray .long, 2) := by decide +kernel
theorem dX12_init_273 : decode cX12_init 273 = .ok (.putfield 103, 3) := by decide +kernel
theorem pk_LandSurveyModel_13 : pk RX12 TX12 87 13 tyX12 true := ⟨tyX12_ok, nmX12, rfl⟩
def wr_k_X12_init : List Nat := [202401, 202404, 202405, 202406, 202409, 202411, 202412, 202413, 202414, 202415, 202416, 202417, 202418, 202419, 202420, 202421, 202422, 202423, 202424, 202425, 202426, 202427, 202429, 202430, 202431, 202432, 202434, 202435, 202436, 202437, 202438, 202439, 202441, 202442, 202443, 202444, 202445, 202446, 202447, 202448, 202449, 202450, 202451, 202452, 202453, 202454, 202455, 202456, 202458, 202459, 202460, 202461, 202463, 202464, 202465, 202466, 202467, 202468, 202470, 202471, 202472, 202473, 202474, 202475, 202476, 202481, 202482, 202484, 202485, 202486, 21820400, 27220000, 27420200, 27820000, 1000101100, 1000104100, 1000105100, 1000106102, 1000109102, 1000111100, 1000112100, 1000113102, 1000114100, 1000115100, 1000116101, 1000117101, 1000118101, 1000119100, 1000120101, 1000121100, 1000122100, 1000123100, 1000124100, 1000125100, 1000126100, 1000127100, 1000129100, 1000130100, 1000131100, 1000132100, 1000136100, 1000137101, 1000138101, 1000139100, 1000141100, 1000142100, 1000143100, 1000144100, 1000145100, 1000146100, 1000147100, 1000148100, 1000149100, 1000150100, 1000151100, 1000152101, 1000153101, 1000154100, 1000155100, 1000156100, 1000158101, 1000159100, 1000160100, 1000161100, 1000163100, 1000164100, 1000165100, 1000166100, 1000167100, 1000168100, 1000170101, 1000171100, 1000172102, 1000173101, 1000174101, 1000175100, 1000176100, 1000181100, 1000182101, 1000184100, 1000185100, 1000186100]
set_option maxRecDepth 100000 in
set_option maxHeartbeats 4000000 in
theorem k_X12_init (l : Launch) (D : va_G) (cy : Nat → ClassId) (w : Nat → Nat) (z0 : Nat)  {h : Hp} {a0 : Nat}  (O : Okh h) (ta0 : Tg h a0 = 1012) (P_zm : Iv h a0 10 = 0 ∧ Iv h a0 33 = 0) : MV l D cy w z0 yX12_init cX12_init 2 none 1 24 68 46508 [.inr (.inr a0)] h (fun h1 => Okh h1 ∧ Fx wr_k_X12_init h h1 ∧ (¬ Rv h1 a0 1 = 0) ∧ (¬ Rv h1 a0 4 = 0) ∧ (¬ Rv h1 a0 5 = 0) ∧ (¬ Rv h1 a0 6 = 0) ∧ (¬ Rv h1 a0 9 = 0) ∧ (¬ Rv h1 a0 11 = 0) ∧ (¬ Rv h1 a0 12 = 0) ∧ (¬ Rv h1 a0 13 = 0) ∧ (¬ Rv h1 a0 14 = 0) ∧ (¬ Rv h1 a0 15 = 0) ∧ (¬ Rv h1 a0 16 = 0) ∧ (¬ Rv h1 a0 17 = 0) ∧ (¬ Rv h1 a0 18 = 0) ∧ (¬ Rv h1 a0 19 = 0) ∧ (¬ Rv h1 a0 20 = 0) ∧ (¬ Rv h1 a0 21 = 0) ∧ (¬ Rv h1 a0 22 = 0) ∧ (¬ Rv h1 a0 23 = 0) ∧ (¬ Rv h1 a0 24 = 0) ∧ (¬ Rv h1 a0 25 = 0) ∧ (¬ Rv h1 a0 26 = 0) ∧ (¬ Rv h1 a0 27 = 0) ∧ (¬ Rv h1 a0 29 = 0) ∧ (¬ Rv h1 a0 30 = 0) ∧ (¬ Rv h1 a0 31 = 0) ∧ (¬ Rv h1 a0 32 = 0) ∧ (¬ Rv h1 a0 36 = 0) ∧ (¬ Rv h1 a0 37 = 0) ∧ (¬ Rv h1 a0 38 = 0) ∧ (¬ Rv h1 a0 39 = 0) ∧ (¬ Rv h1 a0 41 = 0) ∧ (¬ Rv h1 a0 42 = 0) ∧ (¬ Rv h1 a0 43 = 0) ∧ (¬ Rv h1 a0 44 = 0) ∧ (¬ Rv h1 a0 45 = 0) ∧ (¬ Rv h1 a0 46 = 0) ∧ (¬ Rv h1 a0 47 = 0) ∧ (¬ Rv h1 a0 48 = 0) ∧ (¬ Rv h1 a0 49 = 0) ∧ (¬ Rv h1 a0 50 = 0) ∧ (¬ Rv h1 a0 51 = 0) ∧ (¬ Rv h1 a0 52 = 0) ∧ (¬ Rv h1 a0 53 = 0) ∧ (¬ Rv h1 a0 54 = 0) ∧ (¬ Rv h1 a0 55 = 0) ∧ (¬ Rv h1 a0 56 = 0) ∧ (¬ Rv h1 a0 58 = 0) ∧ (¬ Rv h1 a0 59 = 0) ∧ (¬ Rv h1 a0 60 = 0) ∧ (¬ Rv h1 a0 61 = 0) ∧ (¬ Rv h1 a0 63 = 0) ∧ (¬ Rv h1 a0 64 = 0) ∧ (¬ Rv h1 a0 65 = 0) ∧ (¬ Rv h1 a0 66 = 0) ∧ (¬ Rv h1 a0 67 = 0) ∧ (¬ Rv h1 a0 68 = 0) ∧ (¬ Rv h1 a0 70 = 0) ∧ (¬ Rv h1 a0 71 = 0) ∧ (¬ Rv h1 a0 72 = 0) ∧ (¬ Rv h1 a0 73 = 0) ∧ (¬ Rv h1 a0 74 = 0) ∧ (¬ Rv h1 a0 75 = 0) ∧ (¬ Rv h1 a0 76 = 0) ∧ (¬ Rv h1 a0 81 = 0) ∧ (¬ Rv h1 a0 82 = 0) ∧ (¬ Rv h1 a0 84 = 0) ∧ (¬ Rv h1 a0 85 = 0) ∧ (¬ Rv h1 a0 86 = 0) ∧ (MInv h1 a0)) := by
  refine hm_go (by decide +kernel) (Nat.le_of_ble_eq_true rfl) (fun p e s m below meth c C hr hn => ?_)
  have J2 : ∀ (h1 : Hp), Okh h1 → Fx [202401, 202404, 202405, 202406, 202409, 202411, 202412, 202413, 202414, 202415, 202416, 202417, 202418, 202419, 202420, 202421, 202422, 202423, 202424, 202425, 202426, 202427, 202429, 202430, 202431, 202432, 202434, 202435, 202436, 202437, 202438, 202439, 202441, 202442, 202443, 202444, 202445, 202446, 202447, 202448, 202449, 202450, 202451, 202452, 202453, 202454, 202455, 202456, 202458, 202459, 202460, 202461, 202463, 202464, 202465, 202466, 202467, 202468, 202470, 202471, 202472, 202473, 202474, 202475, 202476, 202481, 202482, 202484, 202485, 202486, 21820400, 27220000, 27420200, 27820000, 1000101100, 1000104100, 1000105100, 1000106102, 1000109102, 1000111100, 1000112100, 1000113102, 1000114100, 1000115100, 1000116101, 1000117101, 1000118101, 1000119100, 1000120101, 1000121100, 1000122100, 1000123100, 1000124100, 1000125100, 1000126100, 1000127100, 1000129100, 1000130100, 1000131100, 1000132100, 1000136100, 1000137101, 1000138101, 1000139100, 1000141100, 1000142100, 1000143100, 1000144100, 1000145100, 1000146100, 1000147100, 1000148100, 1000149100, 1000150100, 1000151100, 1000152101, 1000153101, 1000154100, 1000155100, 1000156100, 1000158101, 1000159100, 1000160100, 1000161100, 1000163100, 1000164100, 1000165100, 1000166100, 1000167100, 1000168100, 1000170101, 1000171100, 1000172102, 1000173101, 1000174101, 1000175100, 1000176100, 1000181100, 1000182101, 1000184100, 1000185100, 1000186100] h h1 → NZ h1 a0 [86, 85, 84, 82, 81, 76, 75, 74, 73, 72, 71, 70, 68, 67, 66, 65, 64, 63, 61, 60, 59, 58, 56, 55, 54, 53, 52, 51, 50, 49, 48, 47, 46, 45, 44, 43, 42, 41, 39, 38, 37, 36, 32, 31, 30, 29, 27, 26, 25, 24, 23, 22, 21, 20, 19, 18, 17, 16, 15, 14, 13, 12, 11, 9, 6, 5, 4, 1] → LZR h1 a0 → GW p l e (rmm 1 24 68 46508) s m (List.map toV [.inr (.inr a0)]).toArray below meth c D cy z0 2 (MQ below (QV D cy z0 (fun h1 => Okh h1 ∧ Fx wr_k_X12_init h h1 ∧ (¬ Rv h1 a0 1 = 0) ∧ (¬ Rv h1 a0 4 = 0) ∧ (¬ Rv h1 a0 5 = 0) ∧ (¬ Rv h1 a0 6 = 0) ∧ (¬ Rv h1 a0 9 = 0) ∧ (¬ Rv h1 a0 11 = 0) ∧ (¬ Rv h1 a0 12 = 0) ∧ (¬ Rv h1 a0 13 = 0) ∧ (¬ Rv h1 a0 14 = 0) ∧ (¬ Rv h1 a0 15 = 0) ∧ (¬ Rv h1 a0 16 = 0) ∧ (¬ Rv h1 a0 17 = 0) ∧ (¬ Rv h1 a0 18 = 0) ∧ (¬ Rv h1 a0 19 = 0) ∧ (¬ Rv h1 a0 20 = 0) ∧ (¬ Rv h1 a0 21 = 0) ∧ (¬ Rv h1 a0 22 = 0) ∧ (¬ Rv h1 a0 23 = 0) ∧ (¬ Rv h1 a0 24 = 0) ∧ (¬ Rv h1 a0 25 = 0) ∧ (¬ Rv h1 a0 26 = 0) ∧ (¬ Rv h1 a0 27 = 0) ∧ (¬ Rv h1 a0 29 = 0) ∧ (¬ Rv h1 a0 30 = 0) ∧ (¬ Rv h1 a0 31 = 0) ∧ (¬ Rv h1 a0 32 = 0) ∧ (¬ Rv h1 a0 36 = 0) ∧ (¬ Rv h1 a0 37 = 0) ∧ (¬ Rv h1 a0 38 = 0) ∧ (¬ Rv h1 a0 39 = 0) ∧ (¬ Rv h1 a0 41 = 0) ∧ (¬ Rv h1 a0 42 = 0) ∧ (¬ Rv h1 a0 43 = 0) ∧ (¬ Rv h1 a0 44 = 0) ∧ (¬ Rv h1 a0 45 = 0) ∧ (¬ Rv h1 a0 46 = 0) ∧ (¬ Rv h1 a0 47 = 0) ∧ (¬ Rv h1 a0 48 = 0) ∧ (¬ Rv h1 a0 49 = 0) ∧ (¬ Rv h1 a0 50 = 0) ∧ (¬ Rv h1 a0 51 = 0) ∧ (¬ Rv h1 a0 52 = 0) ∧ (¬ Rv h1 a0 53 = 0) ∧ (¬ Rv h1 a0 54 = 0) ∧ (¬ Rv h1 a0 55 = 0) ∧ (¬ Rv h1 a0 56 = 0) ∧ (¬ Rv h1 a0 58 = 0) ∧ (¬ Rv h1 a0 59 = 0) ∧ (¬ Rv h1 a0 60 = 0) ∧ (¬ Rv h1 a0 61 = 0) ∧ (¬ Rv h1 a0 63 = 0) ∧ (¬ Rv h1 a0 64 = 0) ∧ (¬ Rv h1 a0 65 = 0) ∧ (¬ Rv h1 a0 66 = 0) ∧ (¬ Rv h1 a0 67 = 0) ∧ (¬ Rv h1 a0 68 = 0) ∧ (¬ Rv h1 a0 70 = 0) ∧ (¬ Rv h1 a0 71 = 0) ∧ (¬ Rv h1 a0 72 = 0) ∧ (¬ Rv h1 a0 73 = 0) ∧ (¬ Rv h1 a0 74 = 0) ∧ (¬ Rv h1 a0 75 = 0) ∧ (¬ Rv h1 a0 76 = 0) ∧ (¬ Rv h1 a0 81 = 0) ∧ (¬ Rv h1 a0 82 = 0) ∧ (¬ Rv h1 a0 84 = 0) ∧ (¬ Rv h1 a0 85 = 0) ∧ (¬ Rv h1 a0 86 = 0) ∧ (MInv h1 a0))) (List.map toV [.inr (.inr a0)]).toArray s 68 46508 (Aof z0)) 767 [(0, .inr (.inr a0))] [] h1 68 46508 := by
    intro h1 O3 F4 p5 p6
    obtain ⟨v7, e8⟩ : ∃ z, Rv h1 a0 36 = z := ⟨_, rfl⟩
    have e9 : Tg h1 a0 = 1012 := (fxT F4 ta0)
    have t10 := ok_N O3 e9 rE_1012_36 e8 (by rw [← e8]; exact p5 36 rfl)
    have l11 := ok_NL O3 e9 rE_1012_36 e8 (by rw [← e8]; exact p5 36 rfl)
    obtain ⟨v12, e13⟩ : ∃ z, Rv h1 a0 37 = z := ⟨_, rfl⟩
    have t14 := ok_N O3 e9 rE_1012_37 e13 (by rw [← e13]; exact p5 37 rfl)
    have l15 := ok_NL O3 e9 rE_1012_37 e13 (by rw [← e13]; exact p5 37 rfl)
    obtain ⟨v16, e17⟩ : ∃ z, Rv h1 a0 39 = z := ⟨_, rfl⟩
    have t18 := ok_N O3 e9 rE_1012_39 e17 (by rw [← e17]; exact p5 39 rfl)
    have l19 := ok_NL O3 e9 rE_1012_39 e17 (by rw [← e17]; exact p5 39 rfl)
    refine g_iconst C dX12_init_767 ?_
    refine g_istore_n C [(1, .inl 0), (0, .inr (.inr a0))] rfl (by decide) rfl dX12_init_768 ?_
    refine GW.sub [1, 0] rfl ?_
    -- loop at 769
    have L22 : ∀ (μ : Nat) (x20 : Int) (h21 : Hp), (96 - x20).toNat = μ → Okh h21 → Fx [27220000, 27420200, 27820000] h1 h21 → ((0 : Int) ≤ x20 ∧ x20 ≤ (96 : Int)) → GW p l e (rmm 1 24 68 46508) s m (List.map toV [.inr (.inr a0)]).toArray below meth c D cy z0 2 (MQ below (QV D cy z0 (fun h1 => Okh h1 ∧ Fx wr_k_X12_init h h1 ∧ (¬ Rv h1 a0 1 = 0) ∧ (¬ Rv h1 a0 4 = 0) ∧ (¬ Rv h1 a0 5 = 0) ∧ (¬ Rv h1 a0 6 = 0) ∧ (¬ Rv h1 a0 9 = 0) ∧ (¬ Rv h1 a0 11 = 0) ∧ (¬ Rv h1 a0 12 = 0) ∧ (¬ Rv h1 a0 13 = 0) ∧ (¬ Rv h1 a0 14 = 0) ∧ (¬ Rv h1 a0 15 = 0) ∧ (¬ Rv h1 a0 16 = 0) ∧ (¬ Rv h1 a0 17 = 0) ∧ (¬ Rv h1 a0 18 = 0) ∧ (¬ Rv h1 a0 19 = 0) ∧ (¬ Rv h1 a0 20 = 0) ∧ (¬ Rv h1 a0 21 = 0) ∧ (¬ Rv h1 a0 22 = 0) ∧ (¬ Rv h1 a0 23 = 0) ∧ (¬ Rv h1 a0 24 = 0) ∧ (¬ Rv h1 a0 25 = 0) ∧ (¬ Rv h1 a0 26 = 0) ∧ (¬ Rv h1 a0 27 = 0) ∧ (¬ Rv h1 a0 29 = 0) ∧ (¬ Rv h1 a0 30 = 0) ∧ (¬ Rv h1 a0 31 = 0) ∧ (¬ Rv h1 a0 32 = 0) ∧ (¬ Rv h1 a0 36 = 0) ∧ (¬ Rv h1 a0 37 = 0) ∧ (¬ Rv h1 a0 38 = 0) ∧ (¬ Rv h1 a0 39 = 0) ∧ (¬ Rv h1 a0 41 = 0) ∧ (¬ Rv h1 a0 42 = 0) ∧ (¬ Rv h1 a0 43 = 0) ∧ (¬ Rv h1 a0 44 = 0) ∧ (¬ Rv h1 a0 45 = 0) ∧ (¬ Rv h1 a0 46 = 0) ∧ (¬ Rv h1 a0 47 = 0) ∧ (¬ Rv h1 a0 48 = 0) ∧ (¬ Rv h1 a0 49 = 0) ∧ (¬ Rv h1 a0 50 = 0) ∧ (¬ Rv h1 a0 51 = 0) ∧ (¬ Rv h1 a0 52 = 0) ∧ (¬ Rv h1 a0 53 = 0) ∧ (¬ Rv h1 a0 54 = 0) ∧ (¬ Rv h1 a0 55 = 0) ∧ (¬ Rv h1 a0 56 = 0) ∧ (¬ Rv h1 a0 58 = 0) ∧ (¬ Rv h1 a0 59 = 0) ∧ (¬ Rv h1 a0 60 = 0) ∧ (¬ Rv h1 a0 61 = 0) ∧ (¬ Rv h1 a0 63 = 0) ∧ (¬ Rv h1 a0 64 = 0) ∧ (¬ Rv h1 a0 65 = 0) ∧ (¬ Rv h1 a0 66 = 0) ∧ (¬ Rv h1 a0 67 = 0) ∧ (¬ Rv h1 a0 68 = 0) ∧ (¬ Rv h1 a0 70 = 0) ∧ (¬ Rv h1 a0 71 = 0) ∧ (¬ Rv h1 a0 72 = 0) ∧ (¬ Rv h1 a0 73 = 0) ∧ (¬ Rv h1 a0 74 = 0) ∧ (¬ Rv h1 a0 75 = 0) ∧ (¬ Rv h1 a0 76 = 0) ∧ (¬ Rv h1 a0 81 = 0) ∧ (¬ Rv h1 a0 82 = 0) ∧ (¬ Rv h1 a0 84 = 0) ∧ (¬ Rv h1 a0 85 = 0) ∧ (¬ Rv h1 a0 86 = 0) ∧ (MInv h1 a0))) (List.map toV [.inr (.inr a0)]).toArray s 68 46508 (Aof z0)) 769 [(0, .inr (.inr a0)), (1, .inl x20)] [] h21 68 46508 := by
      intro μ
      induction μ using Nat.strongRecOn with
      | ind μ ih23 =>
        intro x20 h21 hm24 O25 F26 f27
        refine g_iload_n C rfl 1 rfl dX12_init_769 ?_
        refine g_bipush C (by decide) dX12_init_770 ?_
        refine g_icmp_ge C (iw f27 (by decide) (by decide)) (iw (il 96) (by decide) (by decide)) 804 (by decide) dX12_init_772 (fun q28 => ?_) (fun q29 => ?_)
        · have f30 : (96 : Int) ≤ x20 ∧ x20 ≤ (96 : Int) := r_ge f27 (il 96) q28 (by decide) (by decide)
          refine g_aload_n C rfl 0 rfl dX12_init_804 ?_
          refine g_iconst C dX12_init_805 ?_
          have e31 : Tg h21 a0 = 1012 := (fxT F26 e9)
          refine gp_I C fk_LandSurveyModel_287 pk_LandSurveyModel_34 rfl e31 (iw (il (-1)) (by decide) (by decide)) (nf_i _) dX12_init_806 (fun h33 hh32 => ?_)
          have O34 := O25.pI e31 hh32 rI_1012_34 (iw (il (-1)) (by decide) (by decide)) nofun
          refine g_aload_n C rfl 0 rfl dX12_init_809 ?_
          refine g_iconst C dX12_init_810 ?_
          have e35 : Tg h33 a0 = 1012 := ((pIT hh32).trans e31)
          refine gp_I C fk_LandSurveyModel_290 pk_LandSurveyModel_35 rfl e35 (iw (il 1) (by decide) (by decide)) (nar_z2 (iw (il 1) (by decide) (by decide))) dX12_init_811 (fun h37 hh36 => ?_)
          have O38 := O34.pI e35 hh36 rI_1012_35 (iw (il 1) (by decide) (by decide)) nofun
          have p39 := (NZ_fx ((Fx.rf (wr := [202435]) (h := h33)).pI e35 hh36 rfl) e35 (by decide) (NZ_fx ((Fx.rf (wr := [202434]) (h := h21)).pI e31 hh32 rfl) e31 (by decide) (NZ_fx F26 e9 (by decide) p5)))
          have e40 : Iv h37 a0 10 = 0 := ((pI_j hh36 (by decide)).trans ((pI_j hh32 (by decide)).trans ((fxI F26 e9 rfl).trans ((fxI F4 ta0 rfl).trans P_zm.1))))
          have p41 := (LZR_fx ((Fx.rf (wr := [202435]) (h := h33)).pI e35 hh36 rfl) e35 rfl (LZR_fx ((Fx.rf (wr := [202434]) (h := h21)).pI e31 hh32 rfl) e31 rfl (LZR_fx F26 e9 rfl p6)))
          exact g_vret C hr ⟨O38, (((((Fx.rf (wr := wr_k_X12_init)).call F4 rfl).call F26 rfl).pI e31 hh32 rfl).pI e35 hh36 rfl), (p39 1 rfl), (p39 4 rfl), (p39 5 rfl), (p39 6 rfl), (p39 9 rfl), (p39 11 rfl), (p39 12 rfl), (p39 13 rfl), (p39 14 rfl), (p39 15 rfl), (p39 16 rfl), (p39 17 rfl), (p39 18 rfl), (p39 19 rfl), (p39 20 rfl), (p39 21 rfl), (p39 22 rfl), (p39 23 rfl), (p39 24 rfl), (p39 25 rfl), (p39 26 rfl), (p39 27 rfl), (p39 29 rfl), (p39 30 rfl), (p39 31 rfl), (p39 32 rfl), (p39 36 rfl), (p39 37 rfl), (p39 38 rfl), (p39 39 rfl), (p39 41 rfl), (p39 42 rfl), (p39 43 rfl), (p39 44 rfl), (p39 45 rfl), (p39 46 rfl), (p39 47 rfl), (p39 48 rfl), (p39 49 rfl), (p39 50 rfl), (p39 51 rfl), (p39 52 rfl), (p39 53 rfl), (p39 54 rfl), (p39 55 rfl), (p39 56 rfl), (p39 58 rfl), (p39 59 rfl), (p39 60 rfl), (p39 61 rfl), (p39 63 rfl), (p39 64 rfl), (p39 65 rfl), (p39 66 rfl), (p39 67 rfl), (p39 68 rfl), (p39 70 rfl), (p39 71 rfl), (p39 72 rfl), (p39 73 rfl), (p39 74 rfl), (p39 75 rfl), (p39 76 rfl), (p39 81 rfl), (p39 82 rfl), (p39 84 rfl), (p39 85 rfl), (p39 86 rfl), ⟨fun b hb => absurd hb (by rw [e40]; omega), fun k _ => by rw [p41.2.2 k]; omega⟩⟩ (by decide) (by decide) dX12_init_814
        · have f42 : (0 : Int) ≤ x20 ∧ x20 ≤ (95 : Int) := r_lt f27 (il 96) q29 (by decide) (by decide)
          refine g_aload_n C rfl 0 rfl dX12_init_775 ?_
          have e43 : Tg h21 a0 = 1012 := (fxT F26 e9)
          have e44 : Rv h21 a0 36 = v7 := ((fxR F26 e9 rfl).trans e8)
          refine gf_R C fk_LandSurveyModel_161 rfl e43 e44 dX12_init_776 ?_
          refine g_iload_n C rfl 1 rfl dX12_init_779 ?_
          refine g_sipush C (by decide) dX12_init_780 ?_
          have e45 : Tg h21 v7 = 136100 := (fxT F26 t10)
          have e46 : Ln h21 v7 = 96 := ((fxL F26 t10).trans l11)
          refine g_iast C e45 rfl e46 (ix f42 (by decide) (by decide)) (iw (il 500) (by decide) (by decide)) dX12_init_783 (fun h48 hh47 => ?_)
          have O49 := O25.pIa e45 ar_136100 hh47 rI_136100_0 (iw (il 500) (by decide) (by decide)) nofun
          refine g_aload_n C rfl 0 rfl dX12_init_784 ?_
          have e50 : Tg h48 a0 = 1012 := ((pIT hh47).trans e43)
          have e51 : Rv h48 a0 37 = v12 := ((pIR hh47).trans ((fxR F26 e9 rfl).trans e13))
          refine gf_R C fk_LandSurveyModel_164 rfl e50 e51 dX12_init_785 ?_
          refine g_iload_n C rfl 1 rfl dX12_init_788 ?_
          refine g_iconst C dX12_init_789 ?_
          have e52 : Tg h48 v12 = 137101 := ((pIT hh47).trans (fxT F26 t14))
          have e53 : Ln h48 v12 = 96 := ((pIL hh47).trans ((fxL F26 t14).trans l15))
          refine g_zast C e52 rfl e53 (ix f42 (by decide) (by decide)) (iw (il 1) (by decide) (by decide)) dX12_init_790 (fun h55 hh54 => ?_)
          have O56 := O49.pIa e52 ar_137101 hh54 rI_137101_0 (iw (il 1) (by decide) (by decide)) nofun
          refine g_aload_n C rfl 0 rfl dX12_init_791 ?_
          have e57 : Tg h55 a0 = 1012 := ((pIT hh54).trans e50)
          have e58 : Rv h55 a0 39 = v16 := ((pIR hh54).trans ((pIR hh47).trans ((fxR F26 e9 rfl).trans e17)))
          refine gf_R C fk_LandSurveyModel_170 rfl e57 e58 dX12_init_792 ?_
          refine g_iload_n C rfl 1 rfl dX12_init_795 ?_
          refine g_iconst C dX12_init_796 ?_
          have e59 : Tg h55 v16 = 139100 := ((pIT hh54).trans ((pIT hh47).trans (fxT F26 t18)))
          have e60 : Ln h55 v16 = 96 := ((pIL hh54).trans ((pIL hh47).trans ((fxL F26 t18).trans l19)))
          refine g_iast C e59 rfl e60 (ix f42 (by decide) (by decide)) (iw (il (-1)) (by decide) (by decide)) dX12_init_797 (fun h62 hh61 => ?_)
          have O63 := O56.pIa e59 ar_139100 hh61 rI_139100_0 (iw (il (-1)) (by decide) (by decide)) nofun
          have f64 : (1 : Int) ≤ (x20 + 1) ∧ (x20 + 1) ≤ (96 : Int) := ia_add f42 (il 1) (by decide) (by decide)
          refine g_iinc C [(1, .inl (x20 + 1)), (0, .inr (.inr a0))] 1 rfl (by decide) rfl dX12_init_798 ?_
          refine g_goto C 769 (by decide) dX12_init_801 ?_
          refine GW.sub [1, 0] rfl ?_
          exact ih23 _ (by omega) (x20 + 1) h62 rfl O63 (((F26.pIa e45 ar_136100 hh47 rfl).pIa e52 ar_137101 hh54 rfl).pIa e59 ar_139100 hh61 rfl) (iw f64 (by decide) (by decide))
    exact L22 _ 0 h1 rfl O3 Fx.rf (iw (il 0) (by decide) (by decide))
  have J66 : ∀ (h65 : Hp), Okh h65 → Fx [202401, 202404, 202405, 202406, 202409, 202411, 202412, 202413, 202414, 202415, 202416, 202417, 202418, 202419, 202420, 202421, 202422, 202423, 202424, 202425, 202426, 202427, 202429, 202430, 202431, 202432, 202434, 202435, 202436, 202437, 202438, 202439, 202441, 202442, 202443, 202444, 202445, 202446, 202447, 202448, 202449, 202450, 202451, 202452, 202453, 202454, 202455, 202456, 202458, 202459, 202460, 202461, 202463, 202464, 202465, 202466, 202467, 202468, 202470, 202471, 202472, 202473, 202474, 202475, 202476, 202481, 202482, 202484, 202485, 202486, 21820400, 27220000, 27420200, 27820000, 1000101100, 1000104100, 1000105100, 1000106102, 1000109102, 1000111100, 1000112100, 1000113102, 1000114100, 1000115100, 1000116101, 1000117101, 1000118101, 1000119100, 1000120101, 1000121100, 1000122100, 1000123100, 1000124100, 1000125100, 1000126100, 1000127100, 1000129100, 1000130100, 1000131100, 1000132100, 1000136100, 1000137101, 1000138101, 1000139100, 1000141100, 1000142100, 1000143100, 1000144100, 1000145100, 1000146100, 1000147100, 1000148100, 1000149100, 1000150100, 1000151100, 1000152101, 1000153101, 1000154100, 1000155100, 1000156100, 1000158101, 1000159100, 1000160100, 1000161100, 1000163100, 1000164100, 1000165100, 1000166100, 1000167100, 1000168100, 1000170101, 1000171100, 1000172102, 1000173101, 1000174101, 1000175100, 1000176100, 1000181100, 1000182101, 1000184100, 1000185100, 1000186100] h h65 → NZ h65 a0 [81, 76, 75, 74, 73, 72, 71, 70, 68, 67, 66, 65, 64, 63, 61, 60, 59, 58, 56, 55, 54, 53, 52, 51, 50, 49, 48, 47, 46, 45, 44, 43, 42, 41, 39, 38, 37, 36, 32, 31, 30, 29, 27, 26, 25, 24, 23, 22, 21, 20, 19, 18, 17, 16, 15, 14, 13, 12, 11, 9, 6, 5, 4, 1] → LZR h65 a0 → GW p l e (rmm 1 24 68 46508) s m (List.map toV [.inr (.inr a0)]).toArray below meth c D cy z0 2 (MQ below (QV D cy z0 (fun h1 => Okh h1 ∧ Fx wr_k_X12_init h h1 ∧ (¬ Rv h1 a0 1 = 0) ∧ (¬ Rv h1 a0 4 = 0) ∧ (¬ Rv h1 a0 5 = 0) ∧ (¬ Rv h1 a0 6 = 0) ∧ (¬ Rv h1 a0 9 = 0) ∧ (¬ Rv h1 a0 11 = 0) ∧ (¬ Rv h1 a0 12 = 0) ∧ (¬ Rv h1 a0 13 = 0) ∧ (¬ Rv h1 a0 14 = 0) ∧ (¬ Rv h1 a0 15 = 0) ∧ (¬ Rv h1 a0 16 = 0) ∧ (¬ Rv h1 a0 17 = 0) ∧ (¬ Rv h1 a0 18 = 0) ∧ (¬ Rv h1 a0 19 = 0) ∧ (¬ Rv h1 a0 20 = 0) ∧ (¬ Rv h1 a0 21 = 0) ∧ (¬ Rv h1 a0 22 = 0) ∧ (¬ Rv h1 a0 23 = 0) ∧ (¬ Rv h1 a0 24 = 0) ∧ (¬ Rv h1 a0 25 = 0) ∧ (¬ Rv h1 a0 26 = 0) ∧ (¬ Rv h1 a0 27 = 0) ∧ (¬ Rv h1 a0 29 = 0) ∧ (¬ Rv h1 a0 30 = 0) ∧ (¬ Rv h1 a0 31 = 0) ∧ (¬ Rv h1 a0 32 = 0) ∧ (¬ Rv h1 a0 36 = 0) ∧ (¬ Rv h1 a0 37 = 0) ∧ (¬ Rv h1 a0 38 = 0) ∧ (¬ Rv h1 a0 39 = 0) ∧ (¬ Rv h1 a0 41 = 0) ∧ (¬ Rv h1 a0 42 = 0) ∧ (¬ Rv h1 a0 43 = 0) ∧ (¬ Rv h1 a0 44 = 0) ∧ (¬ Rv h1 a0 45 = 0) ∧ (¬ Rv h1 a0 46 = 0) ∧ (¬ Rv h1 a0 47 = 0) ∧ (¬ Rv h1 a0 48 = 0) ∧ (¬ Rv h1 a0 49 = 0) ∧ (¬ Rv h1 a0 50 = 0) ∧ (¬ Rv h1 a0 51 = 0) ∧ (¬ Rv h1 a0 52 = 0) ∧ (¬ Rv h1 a0 53 = 0) ∧ (¬ Rv h1 a0 54 = 0) ∧ (¬ Rv h1 a0 55 = 0) ∧ (¬ Rv h1 a0 56 = 0) ∧ (¬ Rv h1 a0 58 = 0) ∧ (¬ Rv h1 a0 59 = 0) ∧ (¬ Rv h1 a0 60 = 0) ∧ (¬ Rv h1 a0 61 = 0) ∧ (¬ Rv h1 a0 63 = 0) ∧ (¬ Rv h1 a0 64 = 0) ∧ (¬ Rv h1 a0 65 = 0) ∧ (¬ Rv h1 a0 66 = 0) ∧ (¬ Rv h1 a0 67 = 0) ∧ (¬ Rv h1 a0 68 = 0) ∧ (¬ Rv h1 a0 70 = 0) ∧ (¬ Rv h1 a0 71 = 0) ∧ (¬ Rv h1 a0 72 = 0) ∧ (¬ Rv h1 a0 73 = 0) ∧ (¬ Rv h1 a0 74 = 0) ∧ (¬ Rv h1 a0 75 = 0) ∧ (¬ Rv h1 a0 76 = 0) ∧ (¬ Rv h1 a0 81 = 0) ∧ (¬ Rv h1 a0 82 = 0) ∧ (¬ Rv h1 a0 84 = 0) ∧ (¬ Rv h1 a0 85 = 0) ∧ (¬ Rv h1 a0 86 = 0) ∧ (MInv h1 a0))) (List.map toV [.inr (.inr a0)]).toArray s 68 46508 (Aof z0)) 735 [(0, .inr (.inr a0))] [] h65 64 46299 := by
    intro h65 O67 F68 p69 p70
    refine g_aload_n C rfl 0 rfl dX12_init_735 ?_
    refine g_bipush C (by decide) dX12_init_736 ?_
    refine g_newa (atype := .boolean) (t := 1) (ty := .boolean) (N := 96) C 182101 rfl (iw (il 96) (by decide) (by decide)) (by decide) rfl kw_225 rfl (fun _ => rfl) (by decide) (by decide) (by decide) (by decide) dX12_init_738 (fun n71 z72 z73 h75 hh74 => ?_)
    have O76 := O67.pN z72 z73 hh74 (by decide) nn_182101
    have e77 : Tg h65 a0 = 1012 := (fxT F68 ta0)
    have e78 : Tg h75 a0 = 1012 := ((pNT hh74 (pN_n hh74 z73 e77)).trans e77)
    refine gp_RF C fk_LandSurveyModel_275 pk_LandSurveyModel_82 rfl e78 hn rfl (nf_a _ _) dX12_init_740 (fun h80 hh79 => ?_)
    have O81 := O76.pR e78 hh79 (okR_l rE_1012_82 (pN_T hh74) (pN_L hh74))
    refine g_aload_n C rfl 0 rfl dX12_init_743 ?_
    refine g_bipush C (by decide) dX12_init_744 ?_
    refine g_newa (atype := .int) (t := 0) (ty := .int) (N := 8) C 184100 rfl (iw (il 8) (by decide) (by decide)) (by decide) rfl kw_224 rfl (fun _ => rfl) (by decide) (by decide) (by decide) (by decide) dX12_init_746 (fun n82 z83 z84 h86 hh85 => ?_)
    have O87 := O81.pN z83 z84 hh85 (by decide) nn_184100
    have e88 : Tg h80 a0 = 1012 := ((pRT hh79).trans e78)
    have e89 : Tg h86 a0 = 1012 := ((pNT hh85 (pN_n hh85 z84 e88)).trans e88)
    refine gp_RF C fk_LandSurveyModel_278 pk_LandSurveyModel_84 rfl e89 hn rfl (nf_a _ _) dX12_init_748 (fun h91 hh90 => ?_)
    have O92 := O87.pR e89 hh90 (okR_l rE_1012_84 (pN_T hh85) (pN_L hh85))
    refine g_aload_n C rfl 0 rfl dX12_init_751 ?_
    refine g_bipush C (by decide) dX12_init_752 ?_
    refine g_newa (atype := .int) (t := 0) (ty := .int) (N := 8) C 185100 rfl (iw (il 8) (by decide) (by decide)) (by decide) rfl kw_224 rfl (fun _ => rfl) (by decide) (by decide) (by decide) (by decide) dX12_init_754 (fun n93 z94 z95 h97 hh96 => ?_)
    have O98 := O92.pN z94 z95 hh96 (by decide) nn_185100
    have e99 : Tg h91 a0 = 1012 := ((pRT hh90).trans e89)
    have e100 : Tg h97 a0 = 1012 := ((pNT hh96 (pN_n hh96 z95 e99)).trans e99)
    refine gp_RF C fk_LandSurveyModel_281 pk_LandSurveyModel_85 rfl e100 hn rfl (nf_a _ _) dX12_init_756 (fun h102 hh101 => ?_)
    have O103 := O98.pR e100 hh101 (okR_l rE_1012_85 (pN_T hh96) (pN_L hh96))
    refine g_aload_n C rfl 0 rfl dX12_init_759 ?_
    refine g_bipush C (by decide) dX12_init_760 ?_
    refine g_newa (atype := .int) (t := 0) (ty := .int) (N := 97) C 186100 rfl (iw (il 97) (by decide) (by decide)) (by decide) rfl kw_224 rfl (fun _ => rfl) (by decide) (by decide) (by decide) (by decide) dX12_init_762 (fun n104 z105 z106 h108 hh107 => ?_)
    have O109 := O103.pN z105 z106 hh107 (by decide) nn_186100
    have e110 : Tg h102 a0 = 1012 := ((pRT hh101).trans e100)
    have e111 : Tg h108 a0 = 1012 := ((pNT hh107 (pN_n hh107 z106 e110)).trans e110)
    refine gp_RF C fk_LandSurveyModel_284 pk_LandSurveyModel_86 rfl e111 hn rfl (nf_a _ _) dX12_init_764 (fun h113 hh112 => ?_)
    have O114 := O109.pR e111 hh112 (okR_l rE_1012_86 (pN_T hh107) (pN_L hh107))
    refine GW.sub [0] rfl ?_
    have p115 := (NZ_fx ((Fx.rf (wr := [202486]) (h := h108)).pR e111 hh112 rfl) e111 (by decide) (NZ_fx ((Fx.rf (wr := [1000186100]) (h := h102)).pN z106 hh107 rfl) e110 (by decide) (NZ_fx ((Fx.rf (wr := [202485]) (h := h97)).pR e100 hh101 rfl) e100 (by decide) (NZ_fx ((Fx.rf (wr := [1000185100]) (h := h91)).pN z95 hh96 rfl) e99 (by decide) (NZ_fx ((Fx.rf (wr := [202484]) (h := h86)).pR e89 hh90 rfl) e89 (by decide) (NZ_fx ((Fx.rf (wr := [1000184100]) (h := h80)).pN z84 hh85 rfl) e88 (by decide) (NZ_fx ((Fx.rf (wr := [202482]) (h := h75)).pR e78 hh79 rfl) e78 (by decide) (NZ_fx ((Fx.rf (wr := [1000182101]) (h := h65)).pN z73 hh74 rfl) e77 (by decide) p69))))))))
    have e116 : Rv h113 a0 82 = n71 := ((pR_j hh112 (by decide)).trans ((pNR hh107 (pN_n hh107 z106 e110)).trans ((pR_j hh101 (by decide)).trans ((pNR hh96 (pN_n hh96 z95 e99)).trans ((pR_j hh90 (by decide)).trans ((pNR hh85 (pN_n hh85 z84 e88)).trans (pR_e hh79)))))))
    have e117 : Tg h80 n71 = 182101 := ((pRT hh79).trans (pN_T hh74))
    have e118 : Tg h91 n71 = 182101 := ((pRT hh90).trans ((pNT hh85 (pN_n hh85 z84 e117)).trans e117))
    have e119 : Tg h102 n71 = 182101 := ((pRT hh101).trans ((pNT hh96 (pN_n hh96 z95 e118)).trans e118))
    have e120 : Tg h113 n71 = 182101 := ((pRT hh112).trans ((pNT hh107 (pN_n hh107 z106 e119)).trans e119))
    have e121 : Rv h113 a0 84 = n82 := ((pR_j hh112 (by decide)).trans ((pNR hh107 (pN_n hh107 z106 e110)).trans ((pR_j hh101 (by decide)).trans ((pNR hh96 (pN_n hh96 z95 e99)).trans (pR_e hh90)))))
    have e122 : Tg h91 n82 = 184100 := ((pRT hh90).trans (pN_T hh85))
    have e123 : Tg h102 n82 = 184100 := ((pRT hh101).trans ((pNT hh96 (pN_n hh96 z95 e122)).trans e122))
    have e124 : Tg h113 n82 = 184100 := ((pRT hh112).trans ((pNT hh107 (pN_n hh107 z106 e123)).trans e123))
    have e125 : Rv h113 a0 85 = n93 := ((pR_j hh112 (by decide)).trans ((pNR hh107 (pN_n hh107 z106 e110)).trans (pR_e hh101)))
    have e126 : Tg h102 n93 = 185100 := ((pRT hh101).trans (pN_T hh96))
    have e127 : Tg h113 n93 = 185100 := ((pRT hh112).trans ((pNT hh107 (pN_n hh107 z106 e126)).trans e126))
    have e128 : Tg h113 n104 = 186100 := ((pRT hh112).trans (pN_T hh107))
    have p129 := (LZR_fx ((Fx.rf (wr := [202486]) (h := h108)).pR e111 hh112 rfl) e111 rfl (LZR_fx ((Fx.rf (wr := [1000186100]) (h := h102)).pN z106 hh107 rfl) e110 rfl (LZR_fx ((Fx.rf (wr := [202485]) (h := h97)).pR e100 hh101 rfl) e100 rfl (LZR_fx ((Fx.rf (wr := [1000185100]) (h := h91)).pN z95 hh96 rfl) e99 rfl (LZR_fx ((Fx.rf (wr := [202484]) (h := h86)).pR e89 hh90 rfl) e89 rfl (LZR_fx ((Fx.rf (wr := [1000184100]) (h := h80)).pN z84 hh85 rfl) e88 rfl (LZR_fx ((Fx.rf (wr := [202482]) (h := h75)).pR e78 hh79 rfl) e78 rfl (LZR_fx ((Fx.rf (wr := [1000182101]) (h := h65)).pN z73 hh74 rfl) e77 rfl p70))))))))
    exact J2 _ O114 ((((((((((Fx.rf (wr := [202401, 202404, 202405, 202406, 202409, 202411, 202412, 202413, 202414, 202415, 202416, 202417, 202418, 202419, 202420, 202421, 202422, 202423, 202424, 202425, 202426, 202427, 202429, 202430, 202431, 202432, 202434, 202435, 202436, 202437, 202438, 202439, 202441, 202442, 202443, 202444, 202445, 202446, 202447, 202448, 202449, 202450, 202451, 202452, 202453, 202454, 202455, 202456, 202458, 202459, 202460, 202461, 202463, 202464, 202465, 202466, 202467, 202468, 202470, 202471, 202472, 202473, 202474, 202475, 202476, 202481, 202482, 202484, 202485, 202486, 21820400, 27220000, 27420200, 27820000, 1000101100, 1000104100, 1000105100, 1000106102, 1000109102, 1000111100, 1000112100, 1000113102, 1000114100, 1000115100, 1000116101, 1000117101, 1000118101, 1000119100, 1000120101, 1000121100, 1000122100, 1000123100, 1000124100, 1000125100, 1000126100, 1000127100, 1000129100, 1000130100, 1000131100, 1000132100, 1000136100, 1000137101, 1000138101, 1000139100, 1000141100, 1000142100, 1000143100, 1000144100, 1000145100, 1000146100, 1000147100, 1000148100, 1000149100, 1000150100, 1000151100, 1000152101, 1000153101, 1000154100, 1000155100, 1000156100, 1000158101, 1000159100, 1000160100, 1000161100, 1000163100, 1000164100, 1000165100, 1000166100, 1000167100, 1000168100, 1000170101, 1000171100, 1000172102, 1000173101, 1000174101, 1000175100, 1000176100, 1000181100, 1000182101, 1000184100, 1000185100, 1000186100]) (h := h)).call F68 rfl).pN z73 hh74 rfl).pR e78 hh79 rfl).pN z84 hh85 rfl).pR e89 hh90 rfl).pN z95 hh96 rfl).pR e100 hh101 rfl).pN z106 hh107 rfl).pR e111 hh112 rfl) (NZ_cons (by rw [(pR_e hh112)]; exact nz_of O114 e128) (NZ_cons (by rw [e125]; exact nz_of O114 e127) (NZ_cons (by rw [e121]; exact nz_of O114 e124) (NZ_cons (by rw [e116]; exact nz_of O114 e120) p115)))) p129
  have J131 : ∀ (h130 : Hp), Okh h130 → Fx [202401, 202404, 202405, 202406, 202409, 202411, 202412, 202413, 202414, 202415, 202416, 202417, 202418, 202419, 202420, 202421, 202422, 202423, 202424, 202425, 202426, 202427, 202429, 202430, 202431, 202432, 202434, 202435, 202436, 202437, 202438, 202439, 202441, 202442, 202443, 202444, 202445, 202446, 202447, 202448, 202449, 202450, 202451, 202452, 202453, 202454, 202455, 202456, 202458, 202459, 202460, 202461, 202463, 202464, 202465, 202466, 202467, 202468, 202470, 202471, 202472, 202473, 202474, 202475, 202476, 202481, 202482, 202484, 202485, 202486, 21820400, 27220000, 27420200, 27820000, 1000101100, 1000104100, 1000105100, 1000106102, 1000109102, 1000111100, 1000112100, 1000113102, 1000114100, 1000115100, 1000116101, 1000117101, 1000118101, 1000119100, 1000120101, 1000121100, 1000122100, 1000123100, 1000124100, 1000125100, 1000126100, 1000127100, 1000129100, 1000130100, 1000131100, 1000132100, 1000136100, 1000137101, 1000138101, 1000139100, 1000141100, 1000142100, 1000143100, 1000144100, 1000145100, 1000146100, 1000147100, 1000148100, 1000149100, 1000150100, 1000151100, 1000152101, 1000153101, 1000154100, 1000155100, 1000156100, 1000158101, 1000159100, 1000160100, 1000161100, 1000163100, 1000164100, 1000165100, 1000166100, 1000167100, 1000168100, 1000170101, 1000171100, 1000172102, 1000173101, 1000174101, 1000175100, 1000176100, 1000181100, 1000182101, 1000184100, 1000185100, 1000186100] h h130 → NZ h130 a0 [68, 67, 66, 65, 64, 63, 61, 60, 59, 58, 56, 55, 54, 53, 52, 51, 50, 49, 48, 47, 46, 45, 44, 43, 42, 41, 39, 38, 37, 36, 32, 31, 30, 29, 27, 26, 25, 24, 23, 22, 21, 20, 19, 18, 17, 16, 15, 14, 13, 12, 11, 9, 6, 5, 4, 1] → LZR h130 a0 → GW p l e (rmm 1 24 68 46508) s m (List.map toV [.inr (.inr a0)]).toArray below meth c D cy z0 2 (MQ below (QV D cy z0 (fun h1 => Okh h1 ∧ Fx wr_k_X12_init h h1 ∧ (¬ Rv h1 a0 1 = 0) ∧ (¬ Rv h1 a0 4 = 0) ∧ (¬ Rv h1 a0 5 = 0) ∧ (¬ Rv h1 a0 6 = 0) ∧ (¬ Rv h1 a0 9 = 0) ∧ (¬ Rv h1 a0 11 = 0) ∧ (¬ Rv h1 a0 12 = 0) ∧ (¬ Rv h1 a0 13 = 0) ∧ (¬ Rv h1 a0 14 = 0) ∧ (¬ Rv h1 a0 15 = 0) ∧ (¬ Rv h1 a0 16 = 0) ∧ (¬ Rv h1 a0 17 = 0) ∧ (¬ Rv h1 a0 18 = 0) ∧ (¬ Rv h1 a0 19 = 0) ∧ (¬ Rv h1 a0 20 = 0) ∧ (¬ Rv h1 a0 21 = 0) ∧ (¬ Rv h1 a0 22 = 0) ∧ (¬ Rv h1 a0 23 = 0) ∧ (¬ Rv h1 a0 24 = 0) ∧ (¬ Rv h1 a0 25 = 0) ∧ (¬ Rv h1 a0 26 = 0) ∧ (¬ Rv h1 a0 27 = 0) ∧ (¬ Rv h1 a0 29 = 0) ∧ (¬ Rv h1 a0 30 = 0) ∧ (¬ Rv h1 a0 31 = 0) ∧ (¬ Rv h1 a0 32 = 0) ∧ (¬ Rv h1 a0 36 = 0) ∧ (¬ Rv h1 a0 37 = 0) ∧ (¬ Rv h1 a0 38 = 0) ∧ (¬ Rv h1 a0 39 = 0) ∧ (¬ Rv h1 a0 41 = 0) ∧ (¬ Rv h1 a0 42 = 0) ∧ (¬ Rv h1 a0 43 = 0) ∧ (¬ Rv h1 a0 44 = 0) ∧ (¬ Rv h1 a0 45 = 0) ∧ (¬ Rv h1 a0 46 = 0) ∧ (¬ Rv h1 a0 47 = 0) ∧ (¬ Rv h1 a0 48 = 0) ∧ (¬ Rv h1 a0 49 = 0) ∧ (¬ Rv h1 a0 50 = 0) ∧ (¬ Rv h1 a0 51 = 0) ∧ (¬ Rv h1 a0 52 = 0) ∧ (¬ Rv h1 a0 53 = 0) ∧ (¬ Rv h1 a0 54 = 0) ∧ (¬ Rv h1 a0 55 = 0) ∧ (¬ Rv h1 a0 56 = 0) ∧ (¬ Rv h1 a0 58 = 0) ∧ (¬ Rv h1 a0 59 = 0) ∧ (¬ Rv h1 a0 60 = 0) ∧ (¬ Rv h1 a0 61 = 0) ∧ (¬ Rv h1 a0 63 = 0) ∧ (¬ Rv h1 a0 64 = 0) ∧ (¬ Rv h1 a0 65 = 0) ∧ (¬ Rv h1 a0 66 = 0) ∧ (¬ Rv h1 a0 67 = 0) ∧ (¬ Rv h1 a0 68 = 0) ∧ (¬ Rv h1 a0 70 = 0) ∧ (¬ Rv h1 a0 71 = 0) ∧ (¬ Rv h1 a0 72 = 0) ∧ (¬ Rv h1 a0 73 = 0) ∧ (¬ Rv h1 a0 74 = 0) ∧ (¬ Rv h1 a0 75 = 0) ∧ (¬ Rv h1 a0 76 = 0) ∧ (¬ Rv h1 a0 81 = 0) ∧ (¬ Rv h1 a0 82 = 0) ∧ (¬ Rv h1 a0 84 = 0) ∧ (¬ Rv h1 a0 85 = 0) ∧ (¬ Rv h1 a0 86 = 0) ∧ (MInv h1 a0))) (List.map toV [.inr (.inr a0)]).toArray s 68 46508 (Aof z0)) 668 [(0, .inr (.inr a0))] [] h130 56 42187 := by
    intro h130 O132 F133 p134 p135
    refine g_aload_n C rfl 0 rfl dX12_init_668 ?_
    refine g_bipush C (by decide) dX12_init_669 ?_
    refine g_newa (atype := .boolean) (t := 1) (ty := .boolean) (N := 16) C 170101 rfl (iw (il 16) (by decide) (by decide)) (by decide) rfl kw_225 rfl (fun _ => rfl) (by decide) (by decide) (by decide) (by decide) dX12_init_671 (fun n136 z137 z138 h140 hh139 => ?_)
    have O141 := O132.pN z137 z138 hh139 (by decide) nn_170101
    have e142 : Tg h130 a0 = 1012 := (fxT F133 ta0)
    have e143 : Tg h140 a0 = 1012 := ((pNT hh139 (pN_n hh139 z138 e142)).trans e142)
    refine gp_RF C fk_LandSurveyModel_251 pk_LandSurveyModel_70 rfl e143 hn rfl (nf_a _ _) dX12_init_673 (fun h145 hh144 => ?_)
    have O146 := O141.pR e143 hh144 (okR_l rE_1012_70 (pN_T hh139) (pN_L hh139))
    refine g_aload_n C rfl 0 rfl dX12_init_676 ?_
    refine g_bipush C (by decide) dX12_init_677 ?_
    refine g_newa (atype := .int) (t := 0) (ty := .int) (N := 16) C 171100 rfl (iw (il 16) (by decide) (by decide)) (by decide) rfl kw_224 rfl (fun _ => rfl) (by decide) (by decide) (by decide) (by decide) dX12_init_679 (fun n147 z148 z149 h151 hh150 => ?_)
    have O152 := O146.pN z148 z149 hh150 (by decide) nn_171100
    have e153 : Tg h145 a0 = 1012 := ((pRT hh144).trans e143)
    have e154 : Tg h151 a0 = 1012 := ((pNT hh150 (pN_n hh150 z149 e153)).trans e153)
    refine gp_RF C fk_LandSurveyModel_254 pk_LandSurveyModel_71 rfl e154 hn rfl (nf_a _ _) dX12_init_681 (fun h156 hh155 => ?_)
    have O157 := O152.pR e154 hh155 (okR_l rE_1012_71 (pN_T hh150) (pN_L hh150))
    refine g_aload_n C rfl 0 rfl dX12_init_684 ?_
    refine g_bipush C (by decide) dX12_init_685 ?_
    refine g_newa (atype := .long) (t := 2) (ty := .long) (N := 16) C 172102 rfl (iw (il 16) (by decide) (by decide)) (by decide) rfl kw_376 rfl (fun _ => rfl) (by decide) (by decide) (by decide) (by decide) dX12_init_687 (fun n158 z159 z160 h162 hh161 => ?_)
    have O163 := O157.pN z159 z160 hh161 (by decide) nn_172102
    have e164 : Tg h156 a0 = 1012 := ((pRT hh155).trans e154)
    have e165 : Tg h162 a0 = 1012 := ((pNT hh161 (pN_n hh161 z160 e164)).trans e164)
    refine gp_RF C fk_LandSurveyModel_257 pk_LandSurveyModel_72 rfl e165 hn rfl (nf_a _ _) dX12_init_689 (fun h167 hh166 => ?_)
    have O168 := O163.pR e165 hh166 (okR_l rE_1012_72 (pN_T hh161) (pN_L hh161))
    refine g_aload_n C rfl 0 rfl dX12_init_692 ?_
    refine g_bipush C (by decide) dX12_init_693 ?_
    refine g_newa (atype := .boolean) (t := 1) (ty := .boolean) (N := 16) C 173101 rfl (iw (il 16) (by decide) (by decide)) (by decide) rfl kw_225 rfl (fun _ => rfl) (by decide) (by decide) (by decide) (by decide) dX12_init_695 (fun n169 z170 z171 h173 hh172 => ?_)
    have O174 := O168.pN z170 z171 hh172 (by decide) nn_173101
    have e175 : Tg h167 a0 = 1012 := ((pRT hh166).trans e165)
    have e176 : Tg h173 a0 = 1012 := ((pNT hh172 (pN_n hh172 z171 e175)).trans e175)
    refine gp_RF C fk_LandSurveyModel_260 pk_LandSurveyModel_73 rfl e176 hn rfl (nf_a _ _) dX12_init_697 (fun h178 hh177 => ?_)
    have O179 := O174.pR e176 hh177 (okR_l rE_1012_73 (pN_T hh172) (pN_L hh172))
    refine g_aload_n C rfl 0 rfl dX12_init_700 ?_
    refine g_bipush C (by decide) dX12_init_701 ?_
    refine g_newa (atype := .boolean) (t := 1) (ty := .boolean) (N := 16) C 174101 rfl (iw (il 16) (by decide) (by decide)) (by decide) rfl kw_225 rfl (fun _ => rfl) (by decide) (by decide) (by decide) (by decide) dX12_init_703 (fun n180 z181 z182 h184 hh183 => ?_)
    have O185 := O179.pN z181 z182 hh183 (by decide) nn_174101
    have e186 : Tg h178 a0 = 1012 := ((pRT hh177).trans e176)
    have e187 : Tg h184 a0 = 1012 := ((pNT hh183 (pN_n hh183 z182 e186)).trans e186)
    refine gp_RF C fk_LandSurveyModel_263 pk_LandSurveyModel_74 rfl e187 hn rfl (nf_a _ _) dX12_init_705 (fun h189 hh188 => ?_)
    have O190 := O185.pR e187 hh188 (okR_l rE_1012_74 (pN_T hh183) (pN_L hh183))
    refine g_aload_n C rfl 0 rfl dX12_init_708 ?_
    refine g_sipush C (by decide) dX12_init_709 ?_
    refine g_newa (atype := .int) (t := 0) (ty := .int) (N := 1536) C 175100 rfl (iw (il 1536) (by decide) (by decide)) (by decide) rfl kw_224 rfl (fun _ => rfl) (by decide) (by decide) (by decide) (by decide) dX12_init_712 (fun n191 z192 z193 h195 hh194 => ?_)
    have O196 := O190.pN z192 z193 hh194 (by decide) nn_175100
    have e197 : Tg h189 a0 = 1012 := ((pRT hh188).trans e187)
    have e198 : Tg h195 a0 = 1012 := ((pNT hh194 (pN_n hh194 z193 e197)).trans e197)
    refine gp_RF C fk_LandSurveyModel_266 pk_LandSurveyModel_75 rfl e198 hn rfl (nf_a _ _) dX12_init_714 (fun h200 hh199 => ?_)
    have O201 := O196.pR e198 hh199 (okR_l rE_1012_75 (pN_T hh194) (pN_L hh194))
    refine g_aload_n C rfl 0 rfl dX12_init_717 ?_
    refine g_sipush C (by decide) dX12_init_718 ?_
    refine g_newa (atype := .int) (t := 0) (ty := .int) (N := 1536) C 176100 rfl (iw (il 1536) (by decide) (by decide)) (by decide) rfl kw_224 rfl (fun _ => rfl) (by decide) (by decide) (by decide) (by decide) dX12_init_721 (fun n202 z203 z204 h206 hh205 => ?_)
    have O207 := O201.pN z203 z204 hh205 (by decide) nn_176100
    have e208 : Tg h200 a0 = 1012 := ((pRT hh199).trans e198)
    have e209 : Tg h206 a0 = 1012 := ((pNT hh205 (pN_n hh205 z204 e208)).trans e208)
    refine gp_RF C fk_LandSurveyModel_269 pk_LandSurveyModel_76 rfl e209 hn rfl (nf_a _ _) dX12_init_723 (fun h211 hh210 => ?_)
    have O212 := O207.pR e209 hh210 (okR_l rE_1012_76 (pN_T hh205) (pN_L hh205))
    refine g_aload_n C rfl 0 rfl dX12_init_726 ?_
    refine g_sipush C (by decide) dX12_init_727 ?_
    refine g_newa (atype := .int) (t := 0) (ty := .int) (N := 960) C 181100 rfl (iw (il 960) (by decide) (by decide)) (by decide) rfl kw_224 rfl (fun _ => rfl) (by decide) (by decide) (by decide) (by decide) dX12_init_730 (fun n213 z214 z215 h217 hh216 => ?_)
    have O218 := O212.pN z214 z215 hh216 (by decide) nn_181100
    have e219 : Tg h211 a0 = 1012 := ((pRT hh210).trans e209)
    have e220 : Tg h217 a0 = 1012 := ((pNT hh216 (pN_n hh216 z215 e219)).trans e219)
    refine gp_RF C fk_LandSurveyModel_272 pk_LandSurveyModel_81 rfl e220 hn rfl (nf_a _ _) dX12_init_732 (fun h222 hh221 => ?_)
    have O223 := O218.pR e220 hh221 (okR_l rE_1012_81 (pN_T hh216) (pN_L hh216))
    refine GW.sub [0] rfl ?_
    have p224 := (NZ_fx ((Fx.rf (wr := [202481]) (h := h217)).pR e220 hh221 rfl) e220 (by decide) (NZ_fx ((Fx.rf (wr := [1000181100]) (h := h211)).pN z215 hh216 rfl) e219 (by decide) (NZ_fx ((Fx.rf (wr := [202476]) (h := h206)).pR e209 hh210 rfl) e209 (by decide) (NZ_fx ((Fx.rf (wr := [1000176100]) (h := h200)).pN z204 hh205 rfl) e208 (by decide) (NZ_fx ((Fx.rf (wr := [202475]) (h := h195)).pR e198 hh199 rfl) e198 (by decide) (NZ_fx ((Fx.rf (wr := [1000175100]) (h := h189)).pN z193 hh194 rfl) e197 (by decide) (NZ_fx ((Fx.rf (wr := [202474]) (h := h184)).pR e187 hh188 rfl) e187 (by decide) (NZ_fx ((Fx.rf (wr := [1000174101]) (h := h178)).pN z182 hh183 rfl) e186 (by decide) (NZ_fx ((Fx.rf (wr := [202473]) (h := h173)).pR e176 hh177 rfl) e176 (by decide) (NZ_fx ((Fx.rf (wr := [1000173101]) (h := h167)).pN z171 hh172 rfl) e175 (by decide) (NZ_fx ((Fx.rf (wr := [202472]) (h := h162)).pR e165 hh166 rfl) e165 (by decide) (NZ_fx ((Fx.rf (wr := [1000172102]) (h := h156)).pN z160 hh161 rfl) e164 (by decide) (NZ_fx ((Fx.rf (wr := [202471]) (h := h151)).pR e154 hh155 rfl) e154 (by decide) (NZ_fx ((Fx.rf (wr := [1000171100]) (h := h145)).pN z149 hh150 rfl) e153 (by decide) (NZ_fx ((Fx.rf (wr := [202470]) (h := h140)).pR e143 hh144 rfl) e143 (by decide) (NZ_fx ((Fx.rf (wr := [1000170101]) (h := h130)).pN z138 hh139 rfl) e142 (by decide) p134))))))))))))))))
    have e225 : Rv h222 a0 70 = n136 := ((pR_j hh221 (by decide)).trans ((pNR hh216 (pN_n hh216 z215 e219)).trans ((pR_j hh210 (by decide)).trans ((pNR hh205 (pN_n hh205 z204 e208)).trans ((pR_j hh199 (by decide)).trans ((pNR hh194 (pN_n hh194 z193 e197)).trans ((pR_j hh188 (by decide)).trans ((pNR hh183 (pN_n hh183 z182 e186)).trans ((pR_j hh177 (by decide)).trans ((pNR hh172 (pN_n hh172 z171 e175)).trans ((pR_j hh166 (by decide)).trans ((pNR hh161 (pN_n hh161 z160 e164)).trans ((pR_j hh155 (by decide)).trans ((pNR hh150 (pN_n hh150 z149 e153)).trans (pR_e hh144)))))))))))))))
    have e226 : Tg h145 n136 = 170101 := ((pRT hh144).trans (pN_T hh139))
    have e227 : Tg h156 n136 = 170101 := ((pRT hh155).trans ((pNT hh150 (pN_n hh150 z149 e226)).trans e226))
    have e228 : Tg h167 n136 = 170101 := ((pRT hh166).trans ((pNT hh161 (pN_n hh161 z160 e227)).trans e227))
    have e229 : Tg h178 n136 = 170101 := ((pRT hh177).trans ((pNT hh172 (pN_n hh172 z171 e228)).trans e228))
    have e230 : Tg h189 n136 = 170101 := ((pRT hh188).trans ((pNT hh183 (pN_n hh183 z182 e229)).trans e229))
    have e231 : Tg h200 n136 = 170101 := ((pRT hh199).trans ((pNT hh194 (pN_n hh194 z193 e230)).trans e230))
    have e232 : Tg h211 n136 = 170101 := ((pRT hh210).trans ((pNT hh205 (pN_n hh205 z204 e231)).trans e231))
    have e233 : Tg h222 n136 = 170101 := ((pRT hh221).trans ((pNT hh216 (pN_n hh216 z215 e232)).trans e232))
    have e234 : Rv h222 a0 71 = n147 := ((pR_j hh221 (by decide)).trans ((pNR hh216 (pN_n hh216 z215 e219)).trans ((pR_j hh210 (by decide)).trans ((pNR hh205 (pN_n hh205 z204 e208)).trans ((pR_j hh199 (by decide)).trans ((pNR hh194 (pN_n hh194 z193 e197)).trans ((pR_j hh188 (by decide)).trans ((pNR hh183 (pN_n hh183 z182 e186)).trans ((pR_j hh177 (by decide)).trans ((pNR hh172 (pN_n hh172 z171 e175)).trans ((pR_j hh166 (by decide)).trans ((pNR hh161 (pN_n hh161 z160 e164)).trans (pR_e hh155)))))))))))))
    have e235 : Tg h156 n147 = 171100 := ((pRT hh155).trans (pN_T hh150))
    have e236 : Tg h167 n147 = 171100 := ((pRT hh166).trans ((pNT hh161 (pN_n hh161 z160 e235)).trans e235))
    have e237 : Tg h178 n147 = 171100 := ((pRT hh177).trans ((pNT hh172 (pN_n hh172 z171 e236)).trans e236))
    have e238 : Tg h189 n147 = 171100 := ((pRT hh188).trans ((pNT hh183 (pN_n hh183 z182 e237)).trans e237))
    have e239 : Tg h200 n147 = 171100 := ((pRT hh199).trans ((pNT hh194 (pN_n hh194 z193 e238)).trans e238))
    have e240 : Tg h211 n147 = 171100 := ((pRT hh210).trans ((pNT hh205 (pN_n hh205 z204 e239)).trans e239))
    have e241 : Tg h222 n147 = 171100 := ((pRT hh221).trans ((pNT hh216 (pN_n hh216 z215 e240)).trans e240))
    have e242 : Rv h222 a0 72 = n158 := ((pR_j hh221 (by decide)).trans ((pNR hh216 (pN_n hh216 z215 e219)).trans ((pR_j hh210 (by decide)).trans ((pNR hh205 (pN_n hh205 z204 e208)).trans ((pR_j hh199 (by decide)).trans ((pNR hh194 (pN_n hh194 z193 e197)).trans ((pR_j hh188 (by decide)).trans ((pNR hh183 (pN_n hh183 z182 e186)).trans ((pR_j hh177 (by decide)).trans ((pNR hh172 (pN_n hh172 z171 e175)).trans (pR_e hh166)))))))))))
    have e243 : Tg h167 n158 = 172102 := ((pRT hh166).trans (pN_T hh161))
    have e244 : Tg h178 n158 = 172102 := ((pRT hh177).trans ((pNT hh172 (pN_n hh172 z171 e243)).trans e243))
    have e245 : Tg h189 n158 = 172102 := ((pRT hh188).trans ((pNT hh183 (pN_n hh183 z182 e244)).trans e244))
    have e246 : Tg h200 n158 = 172102 := ((pRT hh199).trans ((pNT hh194 (pN_n hh194 z193 e245)).trans e245))
    have e247 : Tg h211 n158 = 172102 := ((pRT hh210).trans ((pNT hh205 (pN_n hh205 z204 e246)).trans e246))
    have e248 : Tg h222 n158 = 172102 := ((pRT hh221).trans ((pNT hh216 (pN_n hh216 z215 e247)).trans e247))
    have e249 : Rv h222 a0 73 = n169 := ((pR_j hh221 (by decide)).trans ((pNR hh216 (pN_n hh216 z215 e219)).trans ((pR_j hh210 (by decide)).trans ((pNR hh205 (pN_n hh205 z204 e208)).trans ((pR_j hh199 (by decide)).trans ((pNR hh194 (pN_n hh194 z193 e197)).trans ((pR_j hh188 (by decide)).trans ((pNR hh183 (pN_n hh183 z182 e186)).trans (pR_e hh177)))))))))
    have e250 : Tg h178 n169 = 173101 := ((pRT hh177).trans (pN_T hh172))
    have e251 : Tg h189 n169 = 173101 := ((pRT hh188).trans ((pNT hh183 (pN_n hh183 z182 e250)).trans e250))
    have e252 : Tg h200 n169 = 173101 := ((pRT hh199).trans ((pNT hh194 (pN_n hh194 z193 e251)).trans e251))
    have e253 : Tg h211 n169 = 173101 := ((pRT hh210).trans ((pNT hh205 (pN_n hh205 z204 e252)).trans e252))
    have e254 : Tg h222 n169 = 173101 := ((pRT hh221).trans ((pNT hh216 (pN_n hh216 z215 e253)).trans e253))
    have e255 : Rv h222 a0 74 = n180 := ((pR_j hh221 (by decide)).trans ((pNR hh216 (pN_n hh216 z215 e219)).trans ((pR_j hh210 (by decide)).trans ((pNR hh205 (pN_n hh205 z204 e208)).trans ((pR_j hh199 (by decide)).trans ((pNR hh194 (pN_n hh194 z193 e197)).trans (pR_e hh188)))))))
    have e256 : Tg h189 n180 = 174101 := ((pRT hh188).trans (pN_T hh183))
    have e257 : Tg h200 n180 = 174101 := ((pRT hh199).trans ((pNT hh194 (pN_n hh194 z193 e256)).trans e256))
    have e258 : Tg h211 n180 = 174101 := ((pRT hh210).trans ((pNT hh205 (pN_n hh205 z204 e257)).trans e257))
    have e259 : Tg h222 n180 = 174101 := ((pRT hh221).trans ((pNT hh216 (pN_n hh216 z215 e258)).trans e258))
    have e260 : Rv h222 a0 75 = n191 := ((pR_j hh221 (by decide)).trans ((pNR hh216 (pN_n hh216 z215 e219)).trans ((pR_j hh210 (by decide)).trans ((pNR hh205 (pN_n hh205 z204 e208)).trans (pR_e hh199)))))
    have e261 : Tg h200 n191 = 175100 := ((pRT hh199).trans (pN_T hh194))
    have e262 : Tg h211 n191 = 175100 := ((pRT hh210).trans ((pNT hh205 (pN_n hh205 z204 e261)).trans e261))
    have e263 : Tg h222 n191 = 175100 := ((pRT hh221).trans ((pNT hh216 (pN_n hh216 z215 e262)).trans e262))
    have e264 : Rv h222 a0 76 = n202 := ((pR_j hh221 (by decide)).trans ((pNR hh216 (pN_n hh216 z215 e219)).trans (pR_e hh210)))
    have e265 : Tg h211 n202 = 176100 := ((pRT hh210).trans (pN_T hh205))
    have e266 : Tg h222 n202 = 176100 := ((pRT hh221).trans ((pNT hh216 (pN_n hh216 z215 e265)).trans e265))
    have e267 : Tg h222 n213 = 181100 := ((pRT hh221).trans (pN_T hh216))
    have p268 := (LZR_fx ((Fx.rf (wr := [202481]) (h := h217)).pR e220 hh221 rfl) e220 rfl (LZR_fx ((Fx.rf (wr := [1000181100]) (h := h211)).pN z215 hh216 rfl) e219 rfl (LZR_fx ((Fx.rf (wr := [202476]) (h := h206)).pR e209 hh210 rfl) e209 rfl (LZR_fx ((Fx.rf (wr := [1000176100]) (h := h200)).pN z204 hh205 rfl) e208 rfl (LZR_fx ((Fx.rf (wr := [202475]) (h := h195)).pR e198 hh199 rfl) e198 rfl (LZR_fx ((Fx.rf (wr := [1000175100]) (h := h189)).pN z193 hh194 rfl) e197 rfl (LZR_fx ((Fx.rf (wr := [202474]) (h := h184)).pR e187 hh188 rfl) e187 rfl (LZR_fx ((Fx.rf (wr := [1000174101]) (h := h178)).pN z182 hh183 rfl) e186 rfl (LZR_fx ((Fx.rf (wr := [202473]) (h := h173)).pR e176 hh177 rfl) e176 rfl (LZR_fx ((Fx.rf (wr := [1000173101]) (h := h167)).pN z171 hh172 rfl) e175 rfl (LZR_fx ((Fx.rf (wr := [202472]) (h := h162)).pR e165 hh166 rfl) e165 rfl (LZR_fx ((Fx.rf (wr := [1000172102]) (h := h156)).pN z160 hh161 rfl) e164 rfl (LZR_fx ((Fx.rf (wr := [202471]) (h := h151)).pR e154 hh155 rfl) e154 rfl (LZR_fx ((Fx.rf (wr := [1000171100]) (h := h145)).pN z149 hh150 rfl) e153 rfl (LZR_fx ((Fx.rf (wr := [202470]) (h := h140)).pR e143 hh144 rfl) e143 rfl (LZR_fx ((Fx.rf (wr := [1000170101]) (h := h130)).pN z138 hh139 rfl) e142 rfl p135))))))))))))))))
    exact J66 _ O223 ((((((((((((((((((Fx.rf (wr := [202401, 202404, 202405, 202406, 202409, 202411, 202412, 202413, 202414, 202415, 202416, 202417, 202418, 202419, 202420, 202421, 202422, 202423, 202424, 202425, 202426, 202427, 202429, 202430, 202431, 202432, 202434, 202435, 202436, 202437, 202438, 202439, 202441, 202442, 202443, 202444, 202445, 202446, 202447, 202448, 202449, 202450, 202451, 202452, 202453, 202454, 202455, 202456, 202458, 202459, 202460, 202461, 202463, 202464, 202465, 202466, 202467, 202468, 202470, 202471, 202472, 202473, 202474, 202475, 202476, 202481, 202482, 202484, 202485, 202486, 21820400, 27220000, 27420200, 27820000, 1000101100, 1000104100, 1000105100, 1000106102, 1000109102, 1000111100, 1000112100, 1000113102, 1000114100, 1000115100, 1000116101, 1000117101, 1000118101, 1000119100, 1000120101, 1000121100, 1000122100, 1000123100, 1000124100, 1000125100, 1000126100, 1000127100, 1000129100, 1000130100, 1000131100, 1000132100, 1000136100, 1000137101, 1000138101, 1000139100, 1000141100, 1000142100, 1000143100, 1000144100, 1000145100, 1000146100, 1000147100, 1000148100, 1000149100, 1000150100, 1000151100, 1000152101, 1000153101, 1000154100, 1000155100, 1000156100, 1000158101, 1000159100, 1000160100, 1000161100, 1000163100, 1000164100, 1000165100, 1000166100, 1000167100, 1000168100, 1000170101, 1000171100, 1000172102, 1000173101, 1000174101, 1000175100, 1000176100, 1000181100, 1000182101, 1000184100, 1000185100, 1000186100]) (h := h)).call F133 rfl).pN z138 hh139 rfl).pR e143 hh144 rfl).pN z149 hh150 rfl).pR e154 hh155 rfl).pN z160 hh161 rfl).pR e165 hh166 rfl).pN z171 hh172 rfl).pR e176 hh177 rfl).pN z182 hh183 rfl).pR e187 hh188 rfl).pN z193 hh194 rfl).pR e198 hh199 rfl).pN z204 hh205 rfl).pR e209 hh210 rfl).pN z215 hh216 rfl).pR e220 hh221 rfl) (NZ_cons (by rw [(pR_e hh221)]; exact nz_of O223 e267) (NZ_cons (by rw [e264]; exact nz_of O223 e266) (NZ_cons (by rw [e260]; exact nz_of O223 e263) (NZ_cons (by rw [e255]; exact nz_of O223 e259) (NZ_cons (by rw [e249]; exact nz_of O223 e254) (NZ_cons (by rw [e242]; exact nz_of O223 e248) (NZ_cons (by rw [e234]; exact nz_of O223 e241) (NZ_cons (by rw [e225]; exact nz_of O223 e233) p224)))))))) p268
  have J270 : ∀ (h269 : Hp), Okh h269 → Fx [202401, 202404, 202405, 202406, 202409, 202411, 202412, 202413, 202414, 202415, 202416, 202417, 202418, 202419, 202420, 202421, 202422, 202423, 202424, 202425, 202426, 202427, 202429, 202430, 202431, 202432, 202434, 202435, 202436, 202437, 202438, 202439, 202441, 202442, 202443, 202444, 202445, 202446, 202447, 202448, 202449, 202450, 202451, 202452, 202453, 202454, 202455, 202456, 202458, 202459, 202460, 202461, 202463, 202464, 202465, 202466, 202467, 202468, 202470, 202471, 202472, 202473, 202474, 202475, 202476, 202481, 202482, 202484, 202485, 202486, 21820400, 27220000, 27420200, 27820000, 1000101100, 1000104100, 1000105100, 1000106102, 1000109102, 1000111100, 1000112100, 1000113102, 1000114100, 1000115100, 1000116101, 1000117101, 1000118101, 1000119100, 1000120101, 1000121100, 1000122100, 1000123100, 1000124100, 1000125100, 1000126100, 1000127100, 1000129100, 1000130100, 1000131100, 1000132100, 1000136100, 1000137101, 1000138101, 1000139100, 1000141100, 1000142100, 1000143100, 1000144100, 1000145100, 1000146100, 1000147100, 1000148100, 1000149100, 1000150100, 1000151100, 1000152101, 1000153101, 1000154100, 1000155100, 1000156100, 1000158101, 1000159100, 1000160100, 1000161100, 1000163100, 1000164100, 1000165100, 1000166100, 1000167100, 1000168100, 1000170101, 1000171100, 1000172102, 1000173101, 1000174101, 1000175100, 1000176100, 1000181100, 1000182101, 1000184100, 1000185100, 1000186100] h h269 → NZ h269 a0 [59, 58, 56, 55, 54, 53, 52, 51, 50, 49, 48, 47, 46, 45, 44, 43, 42, 41, 39, 38, 37, 36, 32, 31, 30, 29, 27, 26, 25, 24, 23, 22, 21, 20, 19, 18, 17, 16, 15, 14, 13, 12, 11, 9, 6, 5, 4, 1] → LZR h269 a0 → GW p l e (rmm 1 24 68 46508) s m (List.map toV [.inr (.inr a0)]).toArray below meth c D cy z0 2 (MQ below (QV D cy z0 (fun h1 => Okh h1 ∧ Fx wr_k_X12_init h h1 ∧ (¬ Rv h1 a0 1 = 0) ∧ (¬ Rv h1 a0 4 = 0) ∧ (¬ Rv h1 a0 5 = 0) ∧ (¬ Rv h1 a0 6 = 0) ∧ (¬ Rv h1 a0 9 = 0) ∧ (¬ Rv h1 a0 11 = 0) ∧ (¬ Rv h1 a0 12 = 0) ∧ (¬ Rv h1 a0 13 = 0) ∧ (¬ Rv h1 a0 14 = 0) ∧ (¬ Rv h1 a0 15 = 0) ∧ (¬ Rv h1 a0 16 = 0) ∧ (¬ Rv h1 a0 17 = 0) ∧ (¬ Rv h1 a0 18 = 0) ∧ (¬ Rv h1 a0 19 = 0) ∧ (¬ Rv h1 a0 20 = 0) ∧ (¬ Rv h1 a0 21 = 0) ∧ (¬ Rv h1 a0 22 = 0) ∧ (¬ Rv h1 a0 23 = 0) ∧ (¬ Rv h1 a0 24 = 0) ∧ (¬ Rv h1 a0 25 = 0) ∧ (¬ Rv h1 a0 26 = 0) ∧ (¬ Rv h1 a0 27 = 0) ∧ (¬ Rv h1 a0 29 = 0) ∧ (¬ Rv h1 a0 30 = 0) ∧ (¬ Rv h1 a0 31 = 0) ∧ (¬ Rv h1 a0 32 = 0) ∧ (¬ Rv h1 a0 36 = 0) ∧ (¬ Rv h1 a0 37 = 0) ∧ (¬ Rv h1 a0 38 = 0) ∧ (¬ Rv h1 a0 39 = 0) ∧ (¬ Rv h1 a0 41 = 0) ∧ (¬ Rv h1 a0 42 = 0) ∧ (¬ Rv h1 a0 43 = 0) ∧ (¬ Rv h1 a0 44 = 0) ∧ (¬ Rv h1 a0 45 = 0) ∧ (¬ Rv h1 a0 46 = 0) ∧ (¬ Rv h1 a0 47 = 0) ∧ (¬ Rv h1 a0 48 = 0) ∧ (¬ Rv h1 a0 49 = 0) ∧ (¬ Rv h1 a0 50 = 0) ∧ (¬ Rv h1 a0 51 = 0) ∧ (¬ Rv h1 a0 52 = 0) ∧ (¬ Rv h1 a0 53 = 0) ∧ (¬ Rv h1 a0 54 = 0) ∧ (¬ Rv h1 a0 55 = 0) ∧ (¬ Rv h1 a0 56 = 0) ∧ (¬ Rv h1 a0 58 = 0) ∧ (¬ Rv h1 a0 59 = 0) ∧ (¬ Rv h1 a0 60 = 0) ∧ (¬ Rv h1 a0 61 = 0) ∧ (¬ Rv h1 a0 63 = 0) ∧ (¬ Rv h1 a0 64 = 0) ∧ (¬ Rv h1 a0 65 = 0) ∧ (¬ Rv h1 a0 66 = 0) ∧ (¬ Rv h1 a0 67 = 0) ∧ (¬ Rv h1 a0 68 = 0) ∧ (¬ Rv h1 a0 70 = 0) ∧ (¬ Rv h1 a0 71 = 0) ∧ (¬ Rv h1 a0 72 = 0) ∧ (¬ Rv h1 a0 73 = 0) ∧ (¬ Rv h1 a0 74 = 0) ∧ (¬ Rv h1 a0 75 = 0) ∧ (¬ Rv h1 a0 76 = 0) ∧ (¬ Rv h1 a0 81 = 0) ∧ (¬ Rv h1 a0 82 = 0) ∧ (¬ Rv h1 a0 84 = 0) ∧ (¬ Rv h1 a0 85 = 0) ∧ (¬ Rv h1 a0 86 = 0) ∧ (MInv h1 a0))) (List.map toV [.inr (.inr a0)]).toArray s 68 46508 (Aof z0)) 602 [(0, .inr (.inr a0))] [] h269 48 39585 := by
    intro h269 O271 F272 p273 p274
    refine g_aload_n C rfl 0 rfl dX12_init_602 ?_
    refine g_iconst C dX12_init_603 ?_
    refine g_newa (atype := .int) (t := 0) (ty := .int) (N := 4) C 160100 rfl (iw (il 4) (by decide) (by decide)) (by decide) rfl kw_224 rfl (fun _ => rfl) (by decide) (by decide) (by decide) (by decide) dX12_init_604 (fun n275 z276 z277 h279 hh278 => ?_)
    have O280 := O271.pN z276 z277 hh278 (by decide) nn_160100
    have e281 : Tg h269 a0 = 1012 := (fxT F272 ta0)
    have e282 : Tg h279 a0 = 1012 := ((pNT hh278 (pN_n hh278 z277 e281)).trans e281)
    refine gp_RF C fk_LandSurveyModel_227 pk_LandSurveyModel_60 rfl e282 hn rfl (nf_a _ _) dX12_init_606 (fun h284 hh283 => ?_)
    have O285 := O280.pR e282 hh283 (okR_l rE_1012_60 (pN_T hh278) (pN_L hh278))
    refine g_aload_n C rfl 0 rfl dX12_init_609 ?_
    refine g_iconst C dX12_init_610 ?_
    refine g_newa (atype := .int) (t := 0) (ty := .int) (N := 4) C 161100 rfl (iw (il 4) (by decide) (by decide)) (by decide) rfl kw_224 rfl (fun _ => rfl) (by decide) (by decide) (by decide) (by decide) dX12_init_611 (fun n286 z287 z288 h290 hh289 => ?_)
    have O291 := O285.pN z287 z288 hh289 (by decide) nn_161100
    have e292 : Tg h284 a0 = 1012 := ((pRT hh283).trans e282)
    have e293 : Tg h290 a0 = 1012 := ((pNT hh289 (pN_n hh289 z288 e292)).trans e292)
    refine gp_RF C fk_LandSurveyModel_230 pk_LandSurveyModel_61 rfl e293 hn rfl (nf_a _ _) dX12_init_613 (fun h295 hh294 => ?_)
    have O296 := O291.pR e293 hh294 (okR_l rE_1012_61 (pN_T hh289) (pN_L hh289))
    refine g_aload_n C rfl 0 rfl dX12_init_616 ?_
    refine g_sipush C (by decide) dX12_init_617 ?_
    refine g_newa (atype := .int) (t := 0) (ty := .int) (N := 600) C 163100 rfl (iw (il 600) (by decide) (by decide)) (by decide) rfl kw_224 rfl (fun _ => rfl) (by decide) (by decide) (by decide) (by decide) dX12_init_620 (fun n297 z298 z299 h301 hh300 => ?_)
    have O302 := O296.pN z298 z299 hh300 (by decide) nn_163100
    have e303 : Tg h295 a0 = 1012 := ((pRT hh294).trans e293)
    have e304 : Tg h301 a0 = 1012 := ((pNT hh300 (pN_n hh300 z299 e303)).trans e303)
    refine gp_RF C fk_LandSurveyModel_233 pk_LandSurveyModel_63 rfl e304 hn rfl (nf_a _ _) dX12_init_622 (fun h306 hh305 => ?_)
    have O307 := O302.pR e304 hh305 (okR_l rE_1012_63 (pN_T hh300) (pN_L hh300))
    refine g_aload_n C rfl 0 rfl dX12_init_625 ?_
    refine g_sipush C (by decide) dX12_init_626 ?_
    refine g_newa (atype := .int) (t := 0) (ty := .int) (N := 600) C 164100 rfl (iw (il 600) (by decide) (by decide)) (by decide) rfl kw_224 rfl (fun _ => rfl) (by decide) (by decide) (by decide) (by decide) dX12_init_629 (fun n308 z309 z310 h312 hh311 => ?_)
    have O313 := O307.pN z309 z310 hh311 (by decide) nn_164100
    have e314 : Tg h306 a0 = 1012 := ((pRT hh305).trans e304)
    have e315 : Tg h312 a0 = 1012 := ((pNT hh311 (pN_n hh311 z310 e314)).trans e314)
    refine gp_RF C fk_LandSurveyModel_236 pk_LandSurveyModel_64 rfl e315 hn rfl (nf_a _ _) dX12_init_631 (fun h317 hh316 => ?_)
    have O318 := O313.pR e315 hh316 (okR_l rE_1012_64 (pN_T hh311) (pN_L hh311))
    refine g_aload_n C rfl 0 rfl dX12_init_634 ?_
    refine g_sipush C (by decide) dX12_init_635 ?_
    refine g_newa (atype := .int) (t := 0) (ty := .int) (N := 600) C 165100 rfl (iw (il 600) (by decide) (by decide)) (by decide) rfl kw_224 rfl (fun _ => rfl) (by decide) (by decide) (by decide) (by decide) dX12_init_638 (fun n319 z320 z321 h323 hh322 => ?_)
    have O324 := O318.pN z320 z321 hh322 (by decide) nn_165100
    have e325 : Tg h317 a0 = 1012 := ((pRT hh316).trans e315)
    have e326 : Tg h323 a0 = 1012 := ((pNT hh322 (pN_n hh322 z321 e325)).trans e325)
    refine gp_RF C fk_LandSurveyModel_239 pk_LandSurveyModel_65 rfl e326 hn rfl (nf_a _ _) dX12_init_640 (fun h328 hh327 => ?_)
    have O329 := O324.pR e326 hh327 (okR_l rE_1012_65 (pN_T hh322) (pN_L hh322))
    refine g_aload_n C rfl 0 rfl dX12_init_643 ?_
    refine g_sipush C (by decide) dX12_init_644 ?_
    refine g_newa (atype := .int) (t := 0) (ty := .int) (N := 600) C 166100 rfl (iw (il 600) (by decide) (by decide)) (by decide) rfl kw_224 rfl (fun _ => rfl) (by decide) (by decide) (by decide) (by decide) dX12_init_647 (fun n330 z331 z332 h334 hh333 => ?_)
    have O335 := O329.pN z331 z332 hh333 (by decide) nn_166100
    have e336 : Tg h328 a0 = 1012 := ((pRT hh327).trans e326)
    have e337 : Tg h334 a0 = 1012 := ((pNT hh333 (pN_n hh333 z332 e336)).trans e336)
    refine gp_RF C fk_LandSurveyModel_242 pk_LandSurveyModel_66 rfl e337 hn rfl (nf_a _ _) dX12_init_649 (fun h339 hh338 => ?_)
    have O340 := O335.pR e337 hh338 (okR_l rE_1012_66 (pN_T hh333) (pN_L hh333))
    refine g_aload_n C rfl 0 rfl dX12_init_652 ?_
    refine g_bipush C (by decide) dX12_init_653 ?_
    refine g_newa (atype := .int) (t := 0) (ty := .int) (N := 97) C 167100 rfl (iw (il 97) (by decide) (by decide)) (by decide) rfl kw_224 rfl (fun _ => rfl) (by decide) (by decide) (by decide) (by decide) dX12_init_655 (fun n341 z342 z343 h345 hh344 => ?_)
    have O346 := O340.pN z342 z343 hh344 (by decide) nn_167100
    have e347 : Tg h339 a0 = 1012 := ((pRT hh338).trans e337)
    have e348 : Tg h345 a0 = 1012 := ((pNT hh344 (pN_n hh344 z343 e347)).trans e347)
    refine gp_RF C fk_LandSurveyModel_245 pk_LandSurveyModel_67 rfl e348 hn rfl (nf_a _ _) dX12_init_657 (fun h350 hh349 => ?_)
    have O351 := O346.pR e348 hh349 (okR_l rE_1012_67 (pN_T hh344) (pN_L hh344))
    refine g_aload_n C rfl 0 rfl dX12_init_660 ?_
    refine g_bipush C (by decide) dX12_init_661 ?_
    refine g_newa (atype := .int) (t := 0) (ty := .int) (N := 97) C 168100 rfl (iw (il 97) (by decide) (by decide)) (by decide) rfl kw_224 rfl (fun _ => rfl) (by decide) (by decide) (by decide) (by decide) dX12_init_663 (fun n352 z353 z354 h356 hh355 => ?_)
    have O357 := O351.pN z353 z354 hh355 (by decide) nn_168100
    have e358 : Tg h350 a0 = 1012 := ((pRT hh349).trans e348)
    have e359 : Tg h356 a0 = 1012 := ((pNT hh355 (pN_n hh355 z354 e358)).trans e358)
    refine gp_RF C fk_LandSurveyModel_248 pk_LandSurveyModel_68 rfl e359 hn rfl (nf_a _ _) dX12_init_665 (fun h361 hh360 => ?_)
    have O362 := O357.pR e359 hh360 (okR_l rE_1012_68 (pN_T hh355) (pN_L hh355))
    refine GW.sub [0] rfl ?_
    have p363 := (NZ_fx ((Fx.rf (wr := [202468]) (h := h356)).pR e359 hh360 rfl) e359 (by decide) (NZ_fx ((Fx.rf (wr := [1000168100]) (h := h350)).pN z354 hh355 rfl) e358 (by decide) (NZ_fx ((Fx.rf (wr := [202467]) (h := h345)).pR e348 hh349 rfl) e348 (by decide) (NZ_fx ((Fx.rf (wr := [1000167100]) (h := h339)).pN z343 hh344 rfl) e347 (by decide) (NZ_fx ((Fx.rf (wr := [202466]) (h := h334)).pR e337 hh338 rfl) e337 (by decide) (NZ_fx ((Fx.rf (wr := [1000166100]) (h := h328)).pN z332 hh333 rfl) e336 (by decide) (NZ_fx ((Fx.rf (wr := [202465]) (h := h323)).pR e326 hh327 rfl) e326 (by decide) (NZ_fx ((Fx.rf (wr := [1000165100]) (h := h317)).pN z321 hh322 rfl) e325 (by decide) (NZ_fx ((Fx.rf (wr := [202464]) (h := h312)).pR e315 hh316 rfl) e315 (by decide) (NZ_fx ((Fx.rf (wr := [1000164100]) (h := h306)).pN z310 hh311 rfl) e314 (by decide) (NZ_fx ((Fx.rf (wr := [202463]) (h := h301)).pR e304 hh305 rfl) e304 (by decide) (NZ_fx ((Fx.rf (wr := [1000163100]) (h := h295)).pN z299 hh300 rfl) e303 (by decide) (NZ_fx ((Fx.rf (wr := [202461]) (h := h290)).pR e293 hh294 rfl) e293 (by decide) (NZ_fx ((Fx.rf (wr := [1000161100]) (h := h284)).pN z288 hh289 rfl) e292 (by decide) (NZ_fx ((Fx.rf (wr := [202460]) (h := h279)).pR e282 hh283 rfl) e282 (by decide) (NZ_fx ((Fx.rf (wr := [1000160100]) (h := h269)).pN z277 hh278 rfl) e281 (by decide) p273))))))))))))))))
    have e364 : Rv h361 a0 60 = n275 := ((pR_j hh360 (by decide)).trans ((pNR hh355 (pN_n hh355 z354 e358)).trans ((pR_j hh349 (by decide)).trans ((pNR hh344 (pN_n hh344 z343 e347)).trans ((pR_j hh338 (by decide)).trans ((pNR hh333 (pN_n hh333 z332 e336)).trans ((pR_j hh327 (by decide)).trans ((pNR hh322 (pN_n hh322 z321 e325)).trans ((pR_j hh316 (by decide)).trans ((pNR hh311 (pN_n hh311 z310 e314)).trans ((pR_j hh305 (by decide)).trans ((pNR hh300 (pN_n hh300 z299 e303)).trans ((pR_j hh294 (by decide)).trans ((pNR hh289 (pN_n hh289 z288 e292)).trans (pR_e hh283)))))))))))))))
    have e365 : Tg h284 n275 = 160100 := ((pRT hh283).trans (pN_T hh278))
    have e366 : Tg h295 n275 = 160100 := ((pRT hh294).trans ((pNT hh289 (pN_n hh289 z288 e365)).trans e365))
    have e367 : Tg h306 n275 = 160100 := ((pRT hh305).trans ((pNT hh300 (pN_n hh300 z299 e366)).trans e366))
    have e368 : Tg h317 n275 = 160100 := ((pRT hh316).trans ((pNT hh311 (pN_n hh311 z310 e367)).trans e367))
    have e369 : Tg h328 n275 = 160100 := ((pRT hh327).trans ((pNT hh322 (pN_n hh322 z321 e368)).trans e368))
    have e370 : Tg h339 n275 = 160100 := ((pRT hh338).trans ((pNT hh333 (pN_n hh333 z332 e369)).trans e369))
    have e371 : Tg h350 n275 = 160100 := ((pRT hh349).trans ((pNT hh344 (pN_n hh344 z343 e370)).trans e370))
    have e372 : Tg h361 n275 = 160100 := ((pRT hh360).trans ((pNT hh355 (pN_n hh355 z354 e371)).trans e371))
    have e373 : Rv h361 a0 61 = n286 := ((pR_j hh360 (by decide)).trans ((pNR hh355 (pN_n hh355 z354 e358)).trans ((pR_j hh349 (by decide)).trans ((pNR hh344 (pN_n hh344 z343 e347)).trans ((pR_j hh338 (by decide)).trans ((pNR hh333 (pN_n hh333 z332 e336)).trans ((pR_j hh327 (by decide)).trans ((pNR hh322 (pN_n hh322 z321 e325)).trans ((pR_j hh316 (by decide)).trans ((pNR hh311 (pN_n hh311 z310 e314)).trans ((pR_j hh305 (by decide)).trans ((pNR hh300 (pN_n hh300 z299 e303)).trans (pR_e hh294)))))))))))))
    have e374 : Tg h295 n286 = 161100 := ((pRT hh294).trans (pN_T hh289))
    have e375 : Tg h306 n286 = 161100 := ((pRT hh305).trans ((pNT hh300 (pN_n hh300 z299 e374)).trans e374))
    have e376 : Tg h317 n286 = 161100 := ((pRT hh316).trans ((pNT hh311 (pN_n hh311 z310 e375)).trans e375))
    have e377 : Tg h328 n286 = 161100 := ((pRT hh327).trans ((pNT hh322 (pN_n hh322 z321 e376)).trans e376))
    have e378 : Tg h339 n286 = 161100 := ((pRT hh338).trans ((pNT hh333 (pN_n hh333 z332 e377)).trans e377))
    have e379 : Tg h350 n286 = 161100 := ((pRT hh349).trans ((pNT hh344 (pN_n hh344 z343 e378)).trans e378))
    have e380 : Tg h361 n286 = 161100 := ((pRT hh360).trans ((pNT hh355 (pN_n hh355 z354 e379)).trans e379))
    have e381 : Rv h361 a0 63 = n297 := ((pR_j hh360 (by decide)).trans ((pNR hh355 (pN_n hh355 z354 e358)).trans ((pR_j hh349 (by decide)).trans ((pNR hh344 (pN_n hh344 z343 e347)).trans ((pR_j hh338 (by decide)).trans ((pNR hh333 (pN_n hh333 z332 e336)).trans ((pR_j hh327 (by decide)).trans ((pNR hh322 (pN_n hh322 z321 e325)).trans ((pR_j hh316 (by decide)).trans ((pNR hh311 (pN_n hh311 z310 e314)).trans (pR_e hh305)))))))))))
    have e382 : Tg h306 n297 = 163100 := ((pRT hh305).trans (pN_T hh300))
    have e383 : Tg h317 n297 = 163100 := ((pRT hh316).trans ((pNT hh311 (pN_n hh311 z310 e382)).trans e382))
    have e384 : Tg h328 n297 = 163100 := ((pRT hh327).trans ((pNT hh322 (pN_n hh322 z321 e383)).trans e383))
    have e385 : Tg h339 n297 = 163100 := ((pRT hh338).trans ((pNT hh333 (pN_n hh333 z332 e384)).trans e384))
    have e386 : Tg h350 n297 = 163100 := ((pRT hh349).trans ((pNT hh344 (pN_n hh344 z343 e385)).trans e385))
    have e387 : Tg h361 n297 = 163100 := ((pRT hh360).trans ((pNT hh355 (pN_n hh355 z354 e386)).trans e386))
    have e388 : Rv h361 a0 64 = n308 := ((pR_j hh360 (by decide)).trans ((pNR hh355 (pN_n hh355 z354 e358)).trans ((pR_j hh349 (by decide)).trans ((pNR hh344 (pN_n hh344 z343 e347)).trans ((pR_j hh338 (by decide)).trans ((pNR hh333 (pN_n hh333 z332 e336)).trans ((pR_j hh327 (by decide)).trans ((pNR hh322 (pN_n hh322 z321 e325)).trans (pR_e hh316)))))))))
    have e389 : Tg h317 n308 = 164100 := ((pRT hh316).trans (pN_T hh311))
    have e390 : Tg h328 n308 = 164100 := ((pRT hh327).trans ((pNT hh322 (pN_n hh322 z321 e389)).trans e389))
    have e391 : Tg h339 n308 = 164100 := ((pRT hh338).trans ((pNT hh333 (pN_n hh333 z332 e390)).trans e390))
    have e392 : Tg h350 n308 = 164100 := ((pRT hh349).trans ((pNT hh344 (pN_n hh344 z343 e391)).trans e391))
    have e393 : Tg h361 n308 = 164100 := ((pRT hh360).trans ((pNT hh355 (pN_n hh355 z354 e392)).trans e392))
    have e394 : Rv h361 a0 65 = n319 := ((pR_j hh360 (by decide)).trans ((pNR hh355 (pN_n hh355 z354 e358)).trans ((pR_j hh349 (by decide)).trans ((pNR hh344 (pN_n hh344 z343 e347)).trans ((pR_j hh338 (by decide)).trans ((pNR hh333 (pN_n hh333 z332 e336)).trans (pR_e hh327)))))))
    have e395 : Tg h328 n319 = 165100 := ((pRT hh327).trans (pN_T hh322))
    have e396 : Tg h339 n319 = 165100 := ((pRT hh338).trans ((pNT hh333 (pN_n hh333 z332 e395)).trans e395))
    have e397 : Tg h350 n319 = 165100 := ((pRT hh349).trans ((pNT hh344 (pN_n hh344 z343 e396)).trans e396))
    have e398 : Tg h361 n319 = 165100 := ((pRT hh360).trans ((pNT hh355 (pN_n hh355 z354 e397)).trans e397))
    have e399 : Rv h361 a0 66 = n330 := ((pR_j hh360 (by decide)).trans ((pNR hh355 (pN_n hh355 z354 e358)).trans ((pR_j hh349 (by decide)).trans ((pNR hh344 (pN_n hh344 z343 e347)).trans (pR_e hh338)))))
    have e400 : Tg h339 n330 = 166100 := ((pRT hh338).trans (pN_T hh333))
    have e401 : Tg h350 n330 = 166100 := ((pRT hh349).trans ((pNT hh344 (pN_n hh344 z343 e400)).trans e400))
    have e402 : Tg h361 n330 = 166100 := ((pRT hh360).trans ((pNT hh355 (pN_n hh355 z354 e401)).trans e401))
    have e403 : Rv h361 a0 67 = n341 := ((pR_j hh360 (by decide)).trans ((pNR hh355 (pN_n hh355 z354 e358)).trans (pR_e hh349)))
    have e404 : Tg h350 n341 = 167100 := ((pRT hh349).trans (pN_T hh344))
    have e405 : Tg h361 n341 = 167100 := ((pRT hh360).trans ((pNT hh355 (pN_n hh355 z354 e404)).trans e404))
    have e406 : Tg h361 n352 = 168100 := ((pRT hh360).trans (pN_T hh355))
    have p407 := (LZR_fx ((Fx.rf (wr := [202468]) (h := h356)).pR e359 hh360 rfl) e359 rfl (LZR_fx ((Fx.rf (wr := [1000168100]) (h := h350)).pN z354 hh355 rfl) e358 rfl (LZR_fx ((Fx.rf (wr := [202467]) (h := h345)).pR e348 hh349 rfl) e348 rfl (LZR_fx ((Fx.rf (wr := [1000167100]) (h := h339)).pN z343 hh344 rfl) e347 rfl (LZR_fx ((Fx.rf (wr := [202466]) (h := h334)).pR e337 hh338 rfl) e337 rfl (LZR_fx ((Fx.rf (wr := [1000166100]) (h := h328)).pN z332 hh333 rfl) e336 rfl (LZR_fx ((Fx.rf (wr := [202465]) (h := h323)).pR e326 hh327 rfl) e326 rfl (LZR_fx ((Fx.rf (wr := [1000165100]) (h := h317)).pN z321 hh322 rfl) e325 rfl (LZR_fx ((Fx.rf (wr := [202464]) (h := h312)).pR e315 hh316 rfl) e315 rfl (LZR_fx ((Fx.rf (wr := [1000164100]) (h := h306)).pN z310 hh311 rfl) e314 rfl (LZR_fx ((Fx.rf (wr := [202463]) (h := h301)).pR e304 hh305 rfl) e304 rfl (LZR_fx ((Fx.rf (wr := [1000163100]) (h := h295)).pN z299 hh300 rfl) e303 rfl (LZR_fx ((Fx.rf (wr := [202461]) (h := h290)).pR e293 hh294 rfl) e293 rfl (LZR_fx ((Fx.rf (wr := [1000161100]) (h := h284)).pN z288 hh289 rfl) e292 rfl (LZR_fx ((Fx.rf (wr := [202460]) (h := h279)).pR e282 hh283 rfl) e282 rfl (LZR_fx ((Fx.rf (wr := [1000160100]) (h := h269)).pN z277 hh278 rfl) e281 rfl p274))))))))))))))))
    exact J131 _ O362 ((((((((((((((((((Fx.rf (wr := [202401, 202404, 202405, 202406, 202409, 202411, 202412, 202413, 202414, 202415, 202416, 202417, 202418, 202419, 202420, 202421, 202422, 202423, 202424, 202425, 202426, 202427, 202429, 202430, 202431, 202432, 202434, 202435, 202436, 202437, 202438, 202439, 202441, 202442, 202443, 202444, 202445, 202446, 202447, 202448, 202449, 202450, 202451, 202452, 202453, 202454, 202455, 202456, 202458, 202459, 202460, 202461, 202463, 202464, 202465, 202466, 202467, 202468, 202470, 202471, 202472, 202473, 202474, 202475, 202476, 202481, 202482, 202484, 202485, 202486, 21820400, 27220000, 27420200, 27820000, 1000101100, 1000104100, 1000105100, 1000106102, 1000109102, 1000111100, 1000112100, 1000113102, 1000114100, 1000115100, 1000116101, 1000117101, 1000118101, 1000119100, 1000120101, 1000121100, 1000122100, 1000123100, 1000124100, 1000125100, 1000126100, 1000127100, 1000129100, 1000130100, 1000131100, 1000132100, 1000136100, 1000137101, 1000138101, 1000139100, 1000141100, 1000142100, 1000143100, 1000144100, 1000145100, 1000146100, 1000147100, 1000148100, 1000149100, 1000150100, 1000151100, 1000152101, 1000153101, 1000154100, 1000155100, 1000156100, 1000158101, 1000159100, 1000160100, 1000161100, 1000163100, 1000164100, 1000165100, 1000166100, 1000167100, 1000168100, 1000170101, 1000171100, 1000172102, 1000173101, 1000174101, 1000175100, 1000176100, 1000181100, 1000182101, 1000184100, 1000185100, 1000186100]) (h := h)).call F272 rfl).pN z277 hh278 rfl).pR e282 hh283 rfl).pN z288 hh289 rfl).pR e293 hh294 rfl).pN z299 hh300 rfl).pR e304 hh305 rfl).pN z310 hh311 rfl).pR e315 hh316 rfl).pN z321 hh322 rfl).pR e326 hh327 rfl).pN z332 hh333 rfl).pR e337 hh338 rfl).pN z343 hh344 rfl).pR e348 hh349 rfl).pN z354 hh355 rfl).pR e359 hh360 rfl) (NZ_cons (by rw [(pR_e hh360)]; exact nz_of O362 e406) (NZ_cons (by rw [e403]; exact nz_of O362 e405) (NZ_cons (by rw [e399]; exact nz_of O362 e402) (NZ_cons (by rw [e394]; exact nz_of O362 e398) (NZ_cons (by rw [e388]; exact nz_of O362 e393) (NZ_cons (by rw [e381]; exact nz_of O362 e387) (NZ_cons (by rw [e373]; exact nz_of O362 e380) (NZ_cons (by rw [e364]; exact nz_of O362 e372) p363)))))))) p407
  have J409 : ∀ (h408 : Hp), Okh h408 → Fx [202401, 202404, 202405, 202406, 202409, 202411, 202412, 202413, 202414, 202415, 202416, 202417, 202418, 202419, 202420, 202421, 202422, 202423, 202424, 202425, 202426, 202427, 202429, 202430, 202431, 202432, 202434, 202435, 202436, 202437, 202438, 202439, 202441, 202442, 202443, 202444, 202445, 202446, 202447, 202448, 202449, 202450, 202451, 202452, 202453, 202454, 202455, 202456, 202458, 202459, 202460, 202461, 202463, 202464, 202465, 202466, 202467, 202468, 202470, 202471, 202472, 202473, 202474, 202475, 202476, 202481, 202482, 202484, 202485, 202486, 21820400, 27220000, 27420200, 27820000, 1000101100, 1000104100, 1000105100, 1000106102, 1000109102, 1000111100, 1000112100, 1000113102, 1000114100, 1000115100, 1000116101, 1000117101, 1000118101, 1000119100, 1000120101, 1000121100, 1000122100, 1000123100, 1000124100, 1000125100, 1000126100, 1000127100, 1000129100, 1000130100, 1000131100, 1000132100, 1000136100, 1000137101, 1000138101, 1000139100, 1000141100, 1000142100, 1000143100, 1000144100, 1000145100, 1000146100, 1000147100, 1000148100, 1000149100, 1000150100, 1000151100, 1000152101, 1000153101, 1000154100, 1000155100, 1000156100, 1000158101, 1000159100, 1000160100, 1000161100, 1000163100, 1000164100, 1000165100, 1000166100, 1000167100, 1000168100, 1000170101, 1000171100, 1000172102, 1000173101, 1000174101, 1000175100, 1000176100, 1000181100, 1000182101, 1000184100, 1000185100, 1000186100] h h408 → NZ h408 a0 [50, 49, 48, 47, 46, 45, 44, 43, 42, 41, 39, 38, 37, 36, 32, 31, 30, 29, 27, 26, 25, 24, 23, 22, 21, 20, 19, 18, 17, 16, 15, 14, 13, 12, 11, 9, 6, 5, 4, 1] → LZR h408 a0 → GW p l e (rmm 1 24 68 46508) s m (List.map toV [.inr (.inr a0)]).toArray below meth c D cy z0 2 (MQ below (QV D cy z0 (fun h1 => Okh h1 ∧ Fx wr_k_X12_init h h1 ∧ (¬ Rv h1 a0 1 = 0) ∧ (¬ Rv h1 a0 4 = 0) ∧ (¬ Rv h1 a0 5 = 0) ∧ (¬ Rv h1 a0 6 = 0) ∧ (¬ Rv h1 a0 9 = 0) ∧ (¬ Rv h1 a0 11 = 0) ∧ (¬ Rv h1 a0 12 = 0) ∧ (¬ Rv h1 a0 13 = 0) ∧ (¬ Rv h1 a0 14 = 0) ∧ (¬ Rv h1 a0 15 = 0) ∧ (¬ Rv h1 a0 16 = 0) ∧ (¬ Rv h1 a0 17 = 0) ∧ (¬ Rv h1 a0 18 = 0) ∧ (¬ Rv h1 a0 19 = 0) ∧ (¬ Rv h1 a0 20 = 0) ∧ (¬ Rv h1 a0 21 = 0) ∧ (¬ Rv h1 a0 22 = 0) ∧ (¬ Rv h1 a0 23 = 0) ∧ (¬ Rv h1 a0 24 = 0) ∧ (¬ Rv h1 a0 25 = 0) ∧ (¬ Rv h1 a0 26 = 0) ∧ (¬ Rv h1 a0 27 = 0) ∧ (¬ Rv h1 a0 29 = 0) ∧ (¬ Rv h1 a0 30 = 0) ∧ (¬ Rv h1 a0 31 = 0) ∧ (¬ Rv h1 a0 32 = 0) ∧ (¬ Rv h1 a0 36 = 0) ∧ (¬ Rv h1 a0 37 = 0) ∧ (¬ Rv h1 a0 38 = 0) ∧ (¬ Rv h1 a0 39 = 0) ∧ (¬ Rv h1 a0 41 = 0) ∧ (¬ Rv h1 a0 42 = 0) ∧ (¬ Rv h1 a0 43 = 0) ∧ (¬ Rv h1 a0 44 = 0) ∧ (¬ Rv h1 a0 45 = 0) ∧ (¬ Rv h1 a0 46 = 0) ∧ (¬ Rv h1 a0 47 = 0) ∧ (¬ Rv h1 a0 48 = 0) ∧ (¬ Rv h1 a0 49 = 0) ∧ (¬ Rv h1 a0 50 = 0) ∧ (¬ Rv h1 a0 51 = 0) ∧ (¬ Rv h1 a0 52 = 0) ∧ (¬ Rv h1 a0 53 = 0) ∧ (¬ Rv h1 a0 54 = 0) ∧ (¬ Rv h1 a0 55 = 0) ∧ (¬ Rv h1 a0 56 = 0) ∧ (¬ Rv h1 a0 58 = 0) ∧ (¬ Rv h1 a0 59 = 0) ∧ (¬ Rv h1 a0 60 = 0) ∧ (¬ Rv h1 a0 61 = 0) ∧ (¬ Rv h1 a0 63 = 0) ∧ (¬ Rv h1 a0 64 = 0) ∧ (¬ Rv h1 a0 65 = 0) ∧ (¬ Rv h1 a0 66 = 0) ∧ (¬ Rv h1 a0 67 = 0) ∧ (¬ Rv h1 a0 68 = 0) ∧ (¬ Rv h1 a0 70 = 0) ∧ (¬ Rv h1 a0 71 = 0) ∧ (¬ Rv h1 a0 72 = 0) ∧ (¬ Rv h1 a0 73 = 0) ∧ (¬ Rv h1 a0 74 = 0) ∧ (¬ Rv h1 a0 75 = 0) ∧ (¬ Rv h1 a0 76 = 0) ∧ (¬ Rv h1 a0 81 = 0) ∧ (¬ Rv h1 a0 82 = 0) ∧ (¬ Rv h1 a0 84 = 0) ∧ (¬ Rv h1 a0 85 = 0) ∧ (¬ Rv h1 a0 86 = 0) ∧ (MInv h1 a0))) (List.map toV [.inr (.inr a0)]).toArray s 68 46508 (Aof z0)) 538 [(0, .inr (.inr a0))] [] h408 40 38573 := by
    intro h408 O410 F411 p412 p413
    refine g_aload_n C rfl 0 rfl dX12_init_538 ?_
    refine g_bipush C (by decide) dX12_init_539 ?_
    refine g_newa (atype := .int) (t := 0) (ty := .int) (N := 40) C 151100 rfl (iw (il 40) (by decide) (by decide)) (by decide) rfl kw_224 rfl (fun _ => rfl) (by decide) (by decide) (by decide) (by decide) dX12_init_541 (fun n414 z415 z416 h418 hh417 => ?_)
    have O419 := O410.pN z415 z416 hh417 (by decide) nn_151100
    have e420 : Tg h408 a0 = 1012 := (fxT F411 ta0)
    have e421 : Tg h418 a0 = 1012 := ((pNT hh417 (pN_n hh417 z416 e420)).trans e420)
    refine gp_RF C fk_LandSurveyModel_203 pk_LandSurveyModel_51 rfl e421 hn rfl (nf_a _ _) dX12_init_543 (fun h423 hh422 => ?_)
    have O424 := O419.pR e421 hh422 (okR_l rE_1012_51 (pN_T hh417) (pN_L hh417))
    refine g_aload_n C rfl 0 rfl dX12_init_546 ?_
    refine g_bipush C (by decide) dX12_init_547 ?_
    refine g_newa (atype := .boolean) (t := 1) (ty := .boolean) (N := 40) C 152101 rfl (iw (il 40) (by decide) (by decide)) (by decide) rfl kw_225 rfl (fun _ => rfl) (by decide) (by decide) (by decide) (by decide) dX12_init_549 (fun n425 z426 z427 h429 hh428 => ?_)
    have O430 := O424.pN z426 z427 hh428 (by decide) nn_152101
    have e431 : Tg h423 a0 = 1012 := ((pRT hh422).trans e421)
    have e432 : Tg h429 a0 = 1012 := ((pNT hh428 (pN_n hh428 z427 e431)).trans e431)
    refine gp_RF C fk_LandSurveyModel_206 pk_LandSurveyModel_52 rfl e432 hn rfl (nf_a _ _) dX12_init_551 (fun h434 hh433 => ?_)
    have O435 := O430.pR e432 hh433 (okR_l rE_1012_52 (pN_T hh428) (pN_L hh428))
    refine g_aload_n C rfl 0 rfl dX12_init_554 ?_
    refine g_bipush C (by decide) dX12_init_555 ?_
    refine g_newa (atype := .boolean) (t := 1) (ty := .boolean) (N := 40) C 153101 rfl (iw (il 40) (by decide) (by decide)) (by decide) rfl kw_225 rfl (fun _ => rfl) (by decide) (by decide) (by decide) (by decide) dX12_init_557 (fun n436 z437 z438 h440 hh439 => ?_)
    have O441 := O435.pN z437 z438 hh439 (by decide) nn_153101
    have e442 : Tg h434 a0 = 1012 := ((pRT hh433).trans e432)
    have e443 : Tg h440 a0 = 1012 := ((pNT hh439 (pN_n hh439 z438 e442)).trans e442)
    refine gp_RF C fk_LandSurveyModel_209 pk_LandSurveyModel_53 rfl e443 hn rfl (nf_a _ _) dX12_init_559 (fun h445 hh444 => ?_)
    have O446 := O441.pR e443 hh444 (okR_l rE_1012_53 (pN_T hh439) (pN_L hh439))
    refine g_aload_n C rfl 0 rfl dX12_init_562 ?_
    refine g_bipush C (by decide) dX12_init_563 ?_
    refine g_newa (atype := .int) (t := 0) (ty := .int) (N := 40) C 154100 rfl (iw (il 40) (by decide) (by decide)) (by decide) rfl kw_224 rfl (fun _ => rfl) (by decide) (by decide) (by decide) (by decide) dX12_init_565 (fun n447 z448 z449 h451 hh450 => ?_)
    have O452 := O446.pN z448 z449 hh450 (by decide) nn_154100
    have e453 : Tg h445 a0 = 1012 := ((pRT hh444).trans e443)
    have e454 : Tg h451 a0 = 1012 := ((pNT hh450 (pN_n hh450 z449 e453)).trans e453)
    refine gp_RF C fk_LandSurveyModel_212 pk_LandSurveyModel_54 rfl e454 hn rfl (nf_a _ _) dX12_init_567 (fun h456 hh455 => ?_)
    have O457 := O452.pR e454 hh455 (okR_l rE_1012_54 (pN_T hh450) (pN_L hh450))
    refine g_aload_n C rfl 0 rfl dX12_init_570 ?_
    refine g_bipush C (by decide) dX12_init_571 ?_
    refine g_newa (atype := .int) (t := 0) (ty := .int) (N := 40) C 155100 rfl (iw (il 40) (by decide) (by decide)) (by decide) rfl kw_224 rfl (fun _ => rfl) (by decide) (by decide) (by decide) (by decide) dX12_init_573 (fun n458 z459 z460 h462 hh461 => ?_)
    have O463 := O457.pN z459 z460 hh461 (by decide) nn_155100
    have e464 : Tg h456 a0 = 1012 := ((pRT hh455).trans e454)
    have e465 : Tg h462 a0 = 1012 := ((pNT hh461 (pN_n hh461 z460 e464)).trans e464)
    refine gp_RF C fk_LandSurveyModel_215 pk_LandSurveyModel_55 rfl e465 hn rfl (nf_a _ _) dX12_init_575 (fun h467 hh466 => ?_)
    have O468 := O463.pR e465 hh466 (okR_l rE_1012_55 (pN_T hh461) (pN_L hh461))
    refine g_aload_n C rfl 0 rfl dX12_init_578 ?_
    refine g_bipush C (by decide) dX12_init_579 ?_
    refine g_newa (atype := .int) (t := 0) (ty := .int) (N := 40) C 156100 rfl (iw (il 40) (by decide) (by decide)) (by decide) rfl kw_224 rfl (fun _ => rfl) (by decide) (by decide) (by decide) (by decide) dX12_init_581 (fun n469 z470 z471 h473 hh472 => ?_)
    have O474 := O468.pN z470 z471 hh472 (by decide) nn_156100
    have e475 : Tg h467 a0 = 1012 := ((pRT hh466).trans e465)
    have e476 : Tg h473 a0 = 1012 := ((pNT hh472 (pN_n hh472 z471 e475)).trans e475)
    refine gp_RF C fk_LandSurveyModel_218 pk_LandSurveyModel_56 rfl e476 hn rfl (nf_a _ _) dX12_init_583 (fun h478 hh477 => ?_)
    have O479 := O474.pR e476 hh477 (okR_l rE_1012_56 (pN_T hh472) (pN_L hh472))
    refine g_aload_n C rfl 0 rfl dX12_init_586 ?_
    refine g_sipush C (by decide) dX12_init_587 ?_
    refine g_newa (atype := .boolean) (t := 1) (ty := .boolean) (N := 768) C 158101 rfl (iw (il 768) (by decide) (by decide)) (by decide) rfl kw_225 rfl (fun _ => rfl) (by decide) (by decide) (by decide) (by decide) dX12_init_590 (fun n480 z481 z482 h484 hh483 => ?_)
    have O485 := O479.pN z481 z482 hh483 (by decide) nn_158101
    have e486 : Tg h478 a0 = 1012 := ((pRT hh477).trans e476)
    have e487 : Tg h484 a0 = 1012 := ((pNT hh483 (pN_n hh483 z482 e486)).trans e486)
    refine gp_RF C fk_LandSurveyModel_221 pk_LandSurveyModel_58 rfl e487 hn rfl (nf_a _ _) dX12_init_592 (fun h489 hh488 => ?_)
    have O490 := O485.pR e487 hh488 (okR_l rE_1012_58 (pN_T hh483) (pN_L hh483))
    refine g_aload_n C rfl 0 rfl dX12_init_595 ?_
    refine g_iconst C dX12_init_596 ?_
    refine g_newa (atype := .int) (t := 0) (ty := .int) (N := 4) C 159100 rfl (iw (il 4) (by decide) (by decide)) (by decide) rfl kw_224 rfl (fun _ => rfl) (by decide) (by decide) (by decide) (by decide) dX12_init_597 (fun n491 z492 z493 h495 hh494 => ?_)
    have O496 := O490.pN z492 z493 hh494 (by decide) nn_159100
    have e497 : Tg h489 a0 = 1012 := ((pRT hh488).trans e487)
    have e498 : Tg h495 a0 = 1012 := ((pNT hh494 (pN_n hh494 z493 e497)).trans e497)
    refine gp_RF C fk_LandSurveyModel_224 pk_LandSurveyModel_59 rfl e498 hn rfl (nf_a _ _) dX12_init_599 (fun h500 hh499 => ?_)
    have O501 := O496.pR e498 hh499 (okR_l rE_1012_59 (pN_T hh494) (pN_L hh494))
    refine GW.sub [0] rfl ?_
    have p502 := (NZ_fx ((Fx.rf (wr := [202459]) (h := h495)).pR e498 hh499 rfl) e498 (by decide) (NZ_fx ((Fx.rf (wr := [1000159100]) (h := h489)).pN z493 hh494 rfl) e497 (by decide) (NZ_fx ((Fx.rf (wr := [202458]) (h := h484)).pR e487 hh488 rfl) e487 (by decide) (NZ_fx ((Fx.rf (wr := [1000158101]) (h := h478)).pN z482 hh483 rfl) e486 (by decide) (NZ_fx ((Fx.rf (wr := [202456]) (h := h473)).pR e476 hh477 rfl) e476 (by decide) (NZ_fx ((Fx.rf (wr := [1000156100]) (h := h467)).pN z471 hh472 rfl) e475 (by decide) (NZ_fx ((Fx.rf (wr := [202455]) (h := h462)).pR e465 hh466 rfl) e465 (by decide) (NZ_fx ((Fx.rf (wr := [1000155100]) (h := h456)).pN z460 hh461 rfl) e464 (by decide) (NZ_fx ((Fx.rf (wr := [202454]) (h := h451)).pR e454 hh455 rfl) e454 (by decide) (NZ_fx ((Fx.rf (wr := [1000154100]) (h := h445)).pN z449 hh450 rfl) e453 (by decide) (NZ_fx ((Fx.rf (wr := [202453]) (h := h440)).pR e443 hh444 rfl) e443 (by decide) (NZ_fx ((Fx.rf (wr := [1000153101]) (h := h434)).pN z438 hh439 rfl) e442 (by decide) (NZ_fx ((Fx.rf (wr := [202452]) (h := h429)).pR e432 hh433 rfl) e432 (by decide) (NZ_fx ((Fx.rf (wr := [1000152101]) (h := h423)).pN z427 hh428 rfl) e431 (by decide) (NZ_fx ((Fx.rf (wr := [202451]) (h := h418)).pR e421 hh422 rfl) e421 (by decide) (NZ_fx ((Fx.rf (wr := [1000151100]) (h := h408)).pN z416 hh417 rfl) e420 (by decide) p412))))))))))))))))
    have e503 : Rv h500 a0 51 = n414 := ((pR_j hh499 (by decide)).trans ((pNR hh494 (pN_n hh494 z493 e497)).trans ((pR_j hh488 (by decide)).trans ((pNR hh483 (pN_n hh483 z482 e486)).trans ((pR_j hh477 (by decide)).trans ((pNR hh472 (pN_n hh472 z471 e475)).trans ((pR_j hh466 (by decide)).trans ((pNR hh461 (pN_n hh461 z460 e464)).trans ((pR_j hh455 (by decide)).trans ((pNR hh450 (pN_n hh450 z449 e453)).trans ((pR_j hh444 (by decide)).trans ((pNR hh439 (pN_n hh439 z438 e442)).trans ((pR_j hh433 (by decide)).trans ((pNR hh428 (pN_n hh428 z427 e431)).trans (pR_e hh422)))))))))))))))
    have e504 : Tg h423 n414 = 151100 := ((pRT hh422).trans (pN_T hh417))
    have e505 : Tg h434 n414 = 151100 := ((pRT hh433).trans ((pNT hh428 (pN_n hh428 z427 e504)).trans e504))
    have e506 : Tg h445 n414 = 151100 := ((pRT hh444).trans ((pNT hh439 (pN_n hh439 z438 e505)).trans e505))
    have e507 : Tg h456 n414 = 151100 := ((pRT hh455).trans ((pNT hh450 (pN_n hh450 z449 e506)).trans e506))
    have e508 : Tg h467 n414 = 151100 := ((pRT hh466).trans ((pNT hh461 (pN_n hh461 z460 e507)).trans e507))
    have e509 : Tg h478 n414 = 151100 := ((pRT hh477).trans ((pNT hh472 (pN_n hh472 z471 e508)).trans e508))
    have e510 : Tg h489 n414 = 151100 := ((pRT hh488).trans ((pNT hh483 (pN_n hh483 z482 e509)).trans e509))
    have e511 : Tg h500 n414 = 151100 := ((pRT hh499).trans ((pNT hh494 (pN_n hh494 z493 e510)).trans e510))
    have e512 : Rv h500 a0 52 = n425 := ((pR_j hh499 (by decide)).trans ((pNR hh494 (pN_n hh494 z493 e497)).trans ((pR_j hh488 (by decide)).trans ((pNR hh483 (pN_n hh483 z482 e486)).trans ((pR_j hh477 (by decide)).trans ((pNR hh472 (pN_n hh472 z471 e475)).trans ((pR_j hh466 (by decide)).trans ((pNR hh461 (pN_n hh461 z460 e464)).trans ((pR_j hh455 (by decide)).trans ((pNR hh450 (pN_n hh450 z449 e453)).trans ((pR_j hh444 (by decide)).trans ((pNR hh439 (pN_n hh439 z438 e442)).trans (pR_e hh433)))))))))))))
    have e513 : Tg h434 n425 = 152101 := ((pRT hh433).trans (pN_T hh428))
    have e514 : Tg h445 n425 = 152101 := ((pRT hh444).trans ((pNT hh439 (pN_n hh439 z438 e513)).trans e513))
    have e515 : Tg h456 n425 = 152101 := ((pRT hh455).trans ((pNT hh450 (pN_n hh450 z449 e514)).trans e514))
    have e516 : Tg h467 n425 = 152101 := ((pRT hh466).trans ((pNT hh461 (pN_n hh461 z460 e515)).trans e515))
    have e517 : Tg h478 n425 = 152101 := ((pRT hh477).trans ((pNT hh472 (pN_n hh472 z471 e516)).trans e516))
    have e518 : Tg h489 n425 = 152101 := ((pRT hh488).trans ((pNT hh483 (pN_n hh483 z482 e517)).trans e517))
    have e519 : Tg h500 n425 = 152101 := ((pRT hh499).trans ((pNT hh494 (pN_n hh494 z493 e518)).trans e518))
    have e520 : Rv h500 a0 53 = n436 := ((pR_j hh499 (by decide)).trans ((pNR hh494 (pN_n hh494 z493 e497)).trans ((pR_j hh488 (by decide)).trans ((pNR hh483 (pN_n hh483 z482 e486)).trans ((pR_j hh477 (by decide)).trans ((pNR hh472 (pN_n hh472 z471 e475)).trans ((pR_j hh466 (by decide)).trans ((pNR hh461 (pN_n hh461 z460 e464)).trans ((pR_j hh455 (by decide)).trans ((pNR hh450 (pN_n hh450 z449 e453)).trans (pR_e hh444)))))))))))
    have e521 : Tg h445 n436 = 153101 := ((pRT hh444).trans (pN_T hh439))
    have e522 : Tg h456 n436 = 153101 := ((pRT hh455).trans ((pNT hh450 (pN_n hh450 z449 e521)).trans e521))
    have e523 : Tg h467 n436 = 153101 := ((pRT hh466).trans ((pNT hh461 (pN_n hh461 z460 e522)).trans e522))
    have e524 : Tg h478 n436 = 153101 := ((pRT hh477).trans ((pNT hh472 (pN_n hh472 z471 e523)).trans e523))
    have e525 : Tg h489 n436 = 153101 := ((pRT hh488).trans ((pNT hh483 (pN_n hh483 z482 e524)).trans e524))
    have e526 : Tg h500 n436 = 153101 := ((pRT hh499).trans ((pNT hh494 (pN_n hh494 z493 e525)).trans e525))
    have e527 : Rv h500 a0 54 = n447 := ((pR_j hh499 (by decide)).trans ((pNR hh494 (pN_n hh494 z493 e497)).trans ((pR_j hh488 (by decide)).trans ((pNR hh483 (pN_n hh483 z482 e486)).trans ((pR_j hh477 (by decide)).trans ((pNR hh472 (pN_n hh472 z471 e475)).trans ((pR_j hh466 (by decide)).trans ((pNR hh461 (pN_n hh461 z460 e464)).trans (pR_e hh455)))))))))
    have e528 : Tg h456 n447 = 154100 := ((pRT hh455).trans (pN_T hh450))
    have e529 : Tg h467 n447 = 154100 := ((pRT hh466).trans ((pNT hh461 (pN_n hh461 z460 e528)).trans e528))
    have e530 : Tg h478 n447 = 154100 := ((pRT hh477).trans ((pNT hh472 (pN_n hh472 z471 e529)).trans e529))
    have e531 : Tg h489 n447 = 154100 := ((pRT hh488).trans ((pNT hh483 (pN_n hh483 z482 e530)).trans e530))
    have e532 : Tg h500 n447 = 154100 := ((pRT hh499).trans ((pNT hh494 (pN_n hh494 z493 e531)).trans e531))
    have e533 : Rv h500 a0 55 = n458 := ((pR_j hh499 (by decide)).trans ((pNR hh494 (pN_n hh494 z493 e497)).trans ((pR_j hh488 (by decide)).trans ((pNR hh483 (pN_n hh483 z482 e486)).trans ((pR_j hh477 (by decide)).trans ((pNR hh472 (pN_n hh472 z471 e475)).trans (pR_e hh466)))))))
    have e534 : Tg h467 n458 = 155100 := ((pRT hh466).trans (pN_T hh461))
    have e535 : Tg h478 n458 = 155100 := ((pRT hh477).trans ((pNT hh472 (pN_n hh472 z471 e534)).trans e534))
    have e536 : Tg h489 n458 = 155100 := ((pRT hh488).trans ((pNT hh483 (pN_n hh483 z482 e535)).trans e535))
    have e537 : Tg h500 n458 = 155100 := ((pRT hh499).trans ((pNT hh494 (pN_n hh494 z493 e536)).trans e536))
    have e538 : Rv h500 a0 56 = n469 := ((pR_j hh499 (by decide)).trans ((pNR hh494 (pN_n hh494 z493 e497)).trans ((pR_j hh488 (by decide)).trans ((pNR hh483 (pN_n hh483 z482 e486)).trans (pR_e hh477)))))
    have e539 : Tg h478 n469 = 156100 := ((pRT hh477).trans (pN_T hh472))
    have e540 : Tg h489 n469 = 156100 := ((pRT hh488).trans ((pNT hh483 (pN_n hh483 z482 e539)).trans e539))
    have e541 : Tg h500 n469 = 156100 := ((pRT hh499).trans ((pNT hh494 (pN_n hh494 z493 e540)).trans e540))
    have e542 : Rv h500 a0 58 = n480 := ((pR_j hh499 (by decide)).trans ((pNR hh494 (pN_n hh494 z493 e497)).trans (pR_e hh488)))
    have e543 : Tg h489 n480 = 158101 := ((pRT hh488).trans (pN_T hh483))
    have e544 : Tg h500 n480 = 158101 := ((pRT hh499).trans ((pNT hh494 (pN_n hh494 z493 e543)).trans e543))
    have e545 : Tg h500 n491 = 159100 := ((pRT hh499).trans (pN_T hh494))
    have p546 := (LZR_fx ((Fx.rf (wr := [202459]) (h := h495)).pR e498 hh499 rfl) e498 rfl (LZR_fx ((Fx.rf (wr := [1000159100]) (h := h489)).pN z493 hh494 rfl) e497 rfl (LZR_fx ((Fx.rf (wr := [202458]) (h := h484)).pR e487 hh488 rfl) e487 rfl (LZR_fx ((Fx.rf (wr := [1000158101]) (h := h478)).pN z482 hh483 rfl) e486 rfl (LZR_fx ((Fx.rf (wr := [202456]) (h := h473)).pR e476 hh477 rfl) e476 rfl (LZR_fx ((Fx.rf (wr := [1000156100]) (h := h467)).pN z471 hh472 rfl) e475 rfl (LZR_fx ((Fx.rf (wr := [202455]) (h := h462)).pR e465 hh466 rfl) e465 rfl (LZR_fx ((Fx.rf (wr := [1000155100]) (h := h456)).pN z460 hh461 rfl) e464 rfl (LZR_fx ((Fx.rf (wr := [202454]) (h := h451)).pR e454 hh455 rfl) e454 rfl (LZR_fx ((Fx.rf (wr := [1000154100]) (h := h445)).pN z449 hh450 rfl) e453 rfl (LZR_fx ((Fx.rf (wr := [202453]) (h := h440)).pR e443 hh444 rfl) e443 rfl (LZR_fx ((Fx.rf (wr := [1000153101]) (h := h434)).pN z438 hh439 rfl) e442 rfl (LZR_fx ((Fx.rf (wr := [202452]) (h := h429)).pR e432 hh433 rfl) e432 rfl (LZR_fx ((Fx.rf (wr := [1000152101]) (h := h423)).pN z427 hh428 rfl) e431 rfl (LZR_fx ((Fx.rf (wr := [202451]) (h := h418)).pR e421 hh422 rfl) e421 rfl (LZR_fx ((Fx.rf (wr := [1000151100]) (h := h408)).pN z416 hh417 rfl) e420 rfl p413))))))))))))))))
    exact J270 _ O501 ((((((((((((((((((Fx.rf (wr := [202401, 202404, 202405, 202406, 202409, 202411, 202412, 202413, 202414, 202415, 202416, 202417, 202418, 202419, 202420, 202421, 202422, 202423, 202424, 202425, 202426, 202427, 202429, 202430, 202431, 202432, 202434, 202435, 202436, 202437, 202438, 202439, 202441, 202442, 202443, 202444, 202445, 202446, 202447, 202448, 202449, 202450, 202451, 202452, 202453, 202454, 202455, 202456, 202458, 202459, 202460, 202461, 202463, 202464, 202465, 202466, 202467, 202468, 202470, 202471, 202472, 202473, 202474, 202475, 202476, 202481, 202482, 202484, 202485, 202486, 21820400, 27220000, 27420200, 27820000, 1000101100, 1000104100, 1000105100, 1000106102, 1000109102, 1000111100, 1000112100, 1000113102, 1000114100, 1000115100, 1000116101, 1000117101, 1000118101, 1000119100, 1000120101, 1000121100, 1000122100, 1000123100, 1000124100, 1000125100, 1000126100, 1000127100, 1000129100, 1000130100, 1000131100, 1000132100, 1000136100, 1000137101, 1000138101, 1000139100, 1000141100, 1000142100, 1000143100, 1000144100, 1000145100, 1000146100, 1000147100, 1000148100, 1000149100, 1000150100, 1000151100, 1000152101, 1000153101, 1000154100, 1000155100, 1000156100, 1000158101, 1000159100, 1000160100, 1000161100, 1000163100, 1000164100, 1000165100, 1000166100, 1000167100, 1000168100, 1000170101, 1000171100, 1000172102, 1000173101, 1000174101, 1000175100, 1000176100, 1000181100, 1000182101, 1000184100, 1000185100, 1000186100]) (h := h)).call F411 rfl).pN z416 hh417 rfl).pR e421 hh422 rfl).pN z427 hh428 rfl).pR e432 hh433 rfl).pN z438 hh439 rfl).pR e443 hh444 rfl).pN z449 hh450 rfl).pR e454 hh455 rfl).pN z460 hh461 rfl).pR e465 hh466 rfl).pN z471 hh472 rfl).pR e476 hh477 rfl).pN z482 hh483 rfl).pR e487 hh488 rfl).pN z493 hh494 rfl).pR e498 hh499 rfl) (NZ_cons (by rw [(pR_e hh499)]; exact nz_of O501 e545) (NZ_cons (by rw [e542]; exact nz_of O501 e544) (NZ_cons (by rw [e538]; exact nz_of O501 e541) (NZ_cons (by rw [e533]; exact nz_of O501 e537) (NZ_cons (by rw [e527]; exact nz_of O501 e532) (NZ_cons (by rw [e520]; exact nz_of O501 e526) (NZ_cons (by rw [e512]; exact nz_of O501 e519) (NZ_cons (by rw [e503]; exact nz_of O501 e511) p502)))))))) p546
  have J548 : ∀ (h547 : Hp), Okh h547 → Fx [202401, 202404, 202405, 202406, 202409, 202411, 202412, 202413, 202414, 202415, 202416, 202417, 202418, 202419, 202420, 202421, 202422, 202423, 202424, 202425, 202426, 202427, 202429, 202430, 202431, 202432, 202434, 202435, 202436, 202437, 202438, 202439, 202441, 202442, 202443, 202444, 202445, 202446, 202447, 202448, 202449, 202450, 202451, 202452, 202453, 202454, 202455, 202456, 202458, 202459, 202460, 202461, 202463, 202464, 202465, 202466, 202467, 202468, 202470, 202471, 202472, 202473, 202474, 202475, 202476, 202481, 202482, 202484, 202485, 202486, 21820400, 27220000, 27420200, 27820000, 1000101100, 1000104100, 1000105100, 1000106102, 1000109102, 1000111100, 1000112100, 1000113102, 1000114100, 1000115100, 1000116101, 1000117101, 1000118101, 1000119100, 1000120101, 1000121100, 1000122100, 1000123100, 1000124100, 1000125100, 1000126100, 1000127100, 1000129100, 1000130100, 1000131100, 1000132100, 1000136100, 1000137101, 1000138101, 1000139100, 1000141100, 1000142100, 1000143100, 1000144100, 1000145100, 1000146100, 1000147100, 1000148100, 1000149100, 1000150100, 1000151100, 1000152101, 1000153101, 1000154100, 1000155100, 1000156100, 1000158101, 1000159100, 1000160100, 1000161100, 1000163100, 1000164100, 1000165100, 1000166100, 1000167100, 1000168100, 1000170101, 1000171100, 1000172102, 1000173101, 1000174101, 1000175100, 1000176100, 1000181100, 1000182101, 1000184100, 1000185100, 1000186100] h h547 → NZ h547 a0 [42, 41, 39, 38, 37, 36, 32, 31, 30, 29, 27, 26, 25, 24, 23, 22, 21, 20, 19, 18, 17, 16, 15, 14, 13, 12, 11, 9, 6, 5, 4, 1] → LZR h547 a0 → GW p l e (rmm 1 24 68 46508) s m (List.map toV [.inr (.inr a0)]).toArray below meth c D cy z0 2 (MQ below (QV D cy z0 (fun h1 => Okh h1 ∧ Fx wr_k_X12_init h h1 ∧ (¬ Rv h1 a0 1 = 0) ∧ (¬ Rv h1 a0 4 = 0) ∧ (¬ Rv h1 a0 5 = 0) ∧ (¬ Rv h1 a0 6 = 0) ∧ (¬ Rv h1 a0 9 = 0) ∧ (¬ Rv h1 a0 11 = 0) ∧ (¬ Rv h1 a0 12 = 0) ∧ (¬ Rv h1 a0 13 = 0) ∧ (¬ Rv h1 a0 14 = 0) ∧ (¬ Rv h1 a0 15 = 0) ∧ (¬ Rv h1 a0 16 = 0) ∧ (¬ Rv h1 a0 17 = 0) ∧ (¬ Rv h1 a0 18 = 0) ∧ (¬ Rv h1 a0 19 = 0) ∧ (¬ Rv h1 a0 20 = 0) ∧ (¬ Rv h1 a0 21 = 0) ∧ (¬ Rv h1 a0 22 = 0) ∧ (¬ Rv h1 a0 23 = 0) ∧ (¬ Rv h1 a0 24 = 0) ∧ (¬ Rv h1 a0 25 = 0) ∧ (¬ Rv h1 a0 26 = 0) ∧ (¬ Rv h1 a0 27 = 0) ∧ (¬ Rv h1 a0 29 = 0) ∧ (¬ Rv h1 a0 30 = 0) ∧ (¬ Rv h1 a0 31 = 0) ∧ (¬ Rv h1 a0 32 = 0) ∧ (¬ Rv h1 a0 36 = 0) ∧ (¬ Rv h1 a0 37 = 0) ∧ (¬ Rv h1 a0 38 = 0) ∧ (¬ Rv h1 a0 39 = 0) ∧ (¬ Rv h1 a0 41 = 0) ∧ (¬ Rv h1 a0 42 = 0) ∧ (¬ Rv h1 a0 43 = 0) ∧ (¬ Rv h1 a0 44 = 0) ∧ (¬ Rv h1 a0 45 = 0) ∧ (¬ Rv h1 a0 46 = 0) ∧ (¬ Rv h1 a0 47 = 0) ∧ (¬ Rv h1 a0 48 = 0) ∧ (¬ Rv h1 a0 49 = 0) ∧ (¬ Rv h1 a0 50 = 0) ∧ (¬ Rv h1 a0 51 = 0) ∧ (¬ Rv h1 a0 52 = 0) ∧ (¬ Rv h1 a0 53 = 0) ∧ (¬ Rv h1 a0 54 = 0) ∧ (¬ Rv h1 a0 55 = 0) ∧ (¬ Rv h1 a0 56 = 0) ∧ (¬ Rv h1 a0 58 = 0) ∧ (¬ Rv h1 a0 59 = 0) ∧ (¬ Rv h1 a0 60 = 0) ∧ (¬ Rv h1 a0 61 = 0) ∧ (¬ Rv h1 a0 63 = 0) ∧ (¬ Rv h1 a0 64 = 0) ∧ (¬ Rv h1 a0 65 = 0) ∧ (¬ Rv h1 a0 66 = 0) ∧ (¬ Rv h1 a0 67 = 0) ∧ (¬ Rv h1 a0 68 = 0) ∧ (¬ Rv h1 a0 70 = 0) ∧ (¬ Rv h1 a0 71 = 0) ∧ (¬ Rv h1 a0 72 = 0) ∧ (¬ Rv h1 a0 73 = 0) ∧ (¬ Rv h1 a0 74 = 0) ∧ (¬ Rv h1 a0 75 = 0) ∧ (¬ Rv h1 a0 76 = 0) ∧ (¬ Rv h1 a0 81 = 0) ∧ (¬ Rv h1 a0 82 = 0) ∧ (¬ Rv h1 a0 84 = 0) ∧ (¬ Rv h1 a0 85 = 0) ∧ (¬ Rv h1 a0 86 = 0) ∧ (MInv h1 a0))) (List.map toV [.inr (.inr a0)]).toArray s 68 46508 (Aof z0)) 474 [(0, .inr (.inr a0))] [] h547 32 38253 := by
    intro h547 O549 F550 p551 p552
    refine g_aload_n C rfl 0 rfl dX12_init_474 ?_
    refine g_bipush C (by decide) dX12_init_475 ?_
    refine g_newa (atype := .int) (t := 0) (ty := .int) (N := 40) C 143100 rfl (iw (il 40) (by decide) (by decide)) (by decide) rfl kw_224 rfl (fun _ => rfl) (by decide) (by decide) (by decide) (by decide) dX12_init_477 (fun n553 z554 z555 h557 hh556 => ?_)
    have O558 := O549.pN z554 z555 hh556 (by decide) nn_143100
    have e559 : Tg h547 a0 = 1012 := (fxT F550 ta0)
    have e560 : Tg h557 a0 = 1012 := ((pNT hh556 (pN_n hh556 z555 e559)).trans e559)
    refine gp_RF C fk_LandSurveyModel_179 pk_LandSurveyModel_43 rfl e560 hn rfl (nf_a _ _) dX12_init_479 (fun h562 hh561 => ?_)
    have O563 := O558.pR e560 hh561 (okR_l rE_1012_43 (pN_T hh556) (pN_L hh556))
    refine g_aload_n C rfl 0 rfl dX12_init_482 ?_
    refine g_bipush C (by decide) dX12_init_483 ?_
    refine g_newa (atype := .int) (t := 0) (ty := .int) (N := 40) C 144100 rfl (iw (il 40) (by decide) (by decide)) (by decide) rfl kw_224 rfl (fun _ => rfl) (by decide) (by decide) (by decide) (by decide) dX12_init_485 (fun n564 z565 z566 h568 hh567 => ?_)
    have O569 := O563.pN z565 z566 hh567 (by decide) nn_144100
    have e570 : Tg h562 a0 = 1012 := ((pRT hh561).trans e560)
    have e571 : Tg h568 a0 = 1012 := ((pNT hh567 (pN_n hh567 z566 e570)).trans e570)
    refine gp_RF C fk_LandSurveyModel_182 pk_LandSurveyModel_44 rfl e571 hn rfl (nf_a _ _) dX12_init_487 (fun h573 hh572 => ?_)
    have O574 := O569.pR e571 hh572 (okR_l rE_1012_44 (pN_T hh567) (pN_L hh567))
    refine g_aload_n C rfl 0 rfl dX12_init_490 ?_
    refine g_bipush C (by decide) dX12_init_491 ?_
    refine g_newa (atype := .int) (t := 0) (ty := .int) (N := 40) C 145100 rfl (iw (il 40) (by decide) (by decide)) (by decide) rfl kw_224 rfl (fun _ => rfl) (by decide) (by decide) (by decide) (by decide) dX12_init_493 (fun n575 z576 z577 h579 hh578 => ?_)
    have O580 := O574.pN z576 z577 hh578 (by decide) nn_145100
    have e581 : Tg h573 a0 = 1012 := ((pRT hh572).trans e571)
    have e582 : Tg h579 a0 = 1012 := ((pNT hh578 (pN_n hh578 z577 e581)).trans e581)
    refine gp_RF C fk_LandSurveyModel_185 pk_LandSurveyModel_45 rfl e582 hn rfl (nf_a _ _) dX12_init_495 (fun h584 hh583 => ?_)
    have O585 := O580.pR e582 hh583 (okR_l rE_1012_45 (pN_T hh578) (pN_L hh578))
    refine g_aload_n C rfl 0 rfl dX12_init_498 ?_
    refine g_bipush C (by decide) dX12_init_499 ?_
    refine g_newa (atype := .int) (t := 0) (ty := .int) (N := 40) C 146100 rfl (iw (il 40) (by decide) (by decide)) (by decide) rfl kw_224 rfl (fun _ => rfl) (by decide) (by decide) (by decide) (by decide) dX12_init_501 (fun n586 z587 z588 h590 hh589 => ?_)
    have O591 := O585.pN z587 z588 hh589 (by decide) nn_146100
    have e592 : Tg h584 a0 = 1012 := ((pRT hh583).trans e582)
    have e593 : Tg h590 a0 = 1012 := ((pNT hh589 (pN_n hh589 z588 e592)).trans e592)
    refine gp_RF C fk_LandSurveyModel_188 pk_LandSurveyModel_46 rfl e593 hn rfl (nf_a _ _) dX12_init_503 (fun h595 hh594 => ?_)
    have O596 := O591.pR e593 hh594 (okR_l rE_1012_46 (pN_T hh589) (pN_L hh589))
    refine g_aload_n C rfl 0 rfl dX12_init_506 ?_
    refine g_bipush C (by decide) dX12_init_507 ?_
    refine g_newa (atype := .int) (t := 0) (ty := .int) (N := 40) C 147100 rfl (iw (il 40) (by decide) (by decide)) (by decide) rfl kw_224 rfl (fun _ => rfl) (by decide) (by decide) (by decide) (by decide) dX12_init_509 (fun n597 z598 z599 h601 hh600 => ?_)
    have O602 := O596.pN z598 z599 hh600 (by decide) nn_147100
    have e603 : Tg h595 a0 = 1012 := ((pRT hh594).trans e593)
    have e604 : Tg h601 a0 = 1012 := ((pNT hh600 (pN_n hh600 z599 e603)).trans e603)
    refine gp_RF C fk_LandSurveyModel_191 pk_LandSurveyModel_47 rfl e604 hn rfl (nf_a _ _) dX12_init_511 (fun h606 hh605 => ?_)
    have O607 := O602.pR e604 hh605 (okR_l rE_1012_47 (pN_T hh600) (pN_L hh600))
    refine g_aload_n C rfl 0 rfl dX12_init_514 ?_
    refine g_bipush C (by decide) dX12_init_515 ?_
    refine g_newa (atype := .int) (t := 0) (ty := .int) (N := 40) C 148100 rfl (iw (il 40) (by decide) (by decide)) (by decide) rfl kw_224 rfl (fun _ => rfl) (by decide) (by decide) (by decide) (by decide) dX12_init_517 (fun n608 z609 z610 h612 hh611 => ?_)
    have O613 := O607.pN z609 z610 hh611 (by decide) nn_148100
    have e614 : Tg h606 a0 = 1012 := ((pRT hh605).trans e604)
    have e615 : Tg h612 a0 = 1012 := ((pNT hh611 (pN_n hh611 z610 e614)).trans e614)
    refine gp_RF C fk_LandSurveyModel_194 pk_LandSurveyModel_48 rfl e615 hn rfl (nf_a _ _) dX12_init_519 (fun h617 hh616 => ?_)
    have O618 := O613.pR e615 hh616 (okR_l rE_1012_48 (pN_T hh611) (pN_L hh611))
    refine g_aload_n C rfl 0 rfl dX12_init_522 ?_
    refine g_bipush C (by decide) dX12_init_523 ?_
    refine g_newa (atype := .int) (t := 0) (ty := .int) (N := 40) C 149100 rfl (iw (il 40) (by decide) (by decide)) (by decide) rfl kw_224 rfl (fun _ => rfl) (by decide) (by decide) (by decide) (by decide) dX12_init_525 (fun n619 z620 z621 h623 hh622 => ?_)
    have O624 := O618.pN z620 z621 hh622 (by decide) nn_149100
    have e625 : Tg h617 a0 = 1012 := ((pRT hh616).trans e615)
    have e626 : Tg h623 a0 = 1012 := ((pNT hh622 (pN_n hh622 z621 e625)).trans e625)
    refine gp_RF C fk_LandSurveyModel_197 pk_LandSurveyModel_49 rfl e626 hn rfl (nf_a _ _) dX12_init_527 (fun h628 hh627 => ?_)
    have O629 := O624.pR e626 hh627 (okR_l rE_1012_49 (pN_T hh622) (pN_L hh622))
    refine g_aload_n C rfl 0 rfl dX12_init_530 ?_
    refine g_bipush C (by decide) dX12_init_531 ?_
    refine g_newa (atype := .int) (t := 0) (ty := .int) (N := 40) C 150100 rfl (iw (il 40) (by decide) (by decide)) (by decide) rfl kw_224 rfl (fun _ => rfl) (by decide) (by decide) (by decide) (by decide) dX12_init_533 (fun n630 z631 z632 h634 hh633 => ?_)
    have O635 := O629.pN z631 z632 hh633 (by decide) nn_150100
    have e636 : Tg h628 a0 = 1012 := ((pRT hh627).trans e626)
    have e637 : Tg h634 a0 = 1012 := ((pNT hh633 (pN_n hh633 z632 e636)).trans e636)
    refine gp_RF C fk_LandSurveyModel_200 pk_LandSurveyModel_50 rfl e637 hn rfl (nf_a _ _) dX12_init_535 (fun h639 hh638 => ?_)
    have O640 := O635.pR e637 hh638 (okR_l rE_1012_50 (pN_T hh633) (pN_L hh633))
    refine GW.sub [0] rfl ?_
    have p641 := (NZ_fx ((Fx.rf (wr := [202450]) (h := h634)).pR e637 hh638 rfl) e637 (by decide) (NZ_fx ((Fx.rf (wr := [1000150100]) (h := h628)).pN z632 hh633 rfl) e636 (by decide) (NZ_fx ((Fx.rf (wr := [202449]) (h := h623)).pR e626 hh627 rfl) e626 (by decide) (NZ_fx ((Fx.rf (wr := [1000149100]) (h := h617)).pN z621 hh622 rfl) e625 (by decide) (NZ_fx ((Fx.rf (wr := [202448]) (h := h612)).pR e615 hh616 rfl) e615 (by decide) (NZ_fx ((Fx.rf (wr := [1000148100]) (h := h606)).pN z610 hh611 rfl) e614 (by decide) (NZ_fx ((Fx.rf (wr := [202447]) (h := h601)).pR e604 hh605 rfl) e604 (by decide) (NZ_fx ((Fx.rf (wr := [1000147100]) (h := h595)).pN z599 hh600 rfl) e603 (by decide) (NZ_fx ((Fx.rf (wr := [202446]) (h := h590)).pR e593 hh594 rfl) e593 (by decide) (NZ_fx ((Fx.rf (wr := [1000146100]) (h := h584)).pN z588 hh589 rfl) e592 (by decide) (NZ_fx ((Fx.rf (wr := [202445]) (h := h579)).pR e582 hh583 rfl) e582 (by decide) (NZ_fx ((Fx.rf (wr := [1000145100]) (h := h573)).pN z577 hh578 rfl) e581 (by decide) (NZ_fx ((Fx.rf (wr := [202444]) (h := h568)).pR e571 hh572 rfl) e571 (by decide) (NZ_fx ((Fx.rf (wr := [1000144100]) (h := h562)).pN z566 hh567 rfl) e570 (by decide) (NZ_fx ((Fx.rf (wr := [202443]) (h := h557)).pR e560 hh561 rfl) e560 (by decide) (NZ_fx ((Fx.rf (wr := [1000143100]) (h := h547)).pN z555 hh556 rfl) e559 (by decide) p551))))))))))))))))
    have e642 : Rv h639 a0 43 = n553 := ((pR_j hh638 (by decide)).trans ((pNR hh633 (pN_n hh633 z632 e636)).trans ((pR_j hh627 (by decide)).trans ((pNR hh622 (pN_n hh622 z621 e625)).trans ((pR_j hh616 (by decide)).trans ((pNR hh611 (pN_n hh611 z610 e614)).trans ((pR_j hh605 (by decide)).trans ((pNR hh600 (pN_n hh600 z599 e603)).trans ((pR_j hh594 (by decide)).trans ((pNR hh589 (pN_n hh589 z588 e592)).trans ((pR_j hh583 (by decide)).trans ((pNR hh578 (pN_n hh578 z577 e581)).trans ((pR_j hh572 (by decide)).trans ((pNR hh567 (pN_n hh567 z566 e570)).trans (pR_e hh561)))))))))))))))
    have e643 : Tg h562 n553 = 143100 := ((pRT hh561).trans (pN_T hh556))
    have e644 : Tg h573 n553 = 143100 := ((pRT hh572).trans ((pNT hh567 (pN_n hh567 z566 e643)).trans e643))
    have e645 : Tg h584 n553 = 143100 := ((pRT hh583).trans ((pNT hh578 (pN_n hh578 z577 e644)).trans e644))
    have e646 : Tg h595 n553 = 143100 := ((pRT hh594).trans ((pNT hh589 (pN_n hh589 z588 e645)).trans e645))
    have e647 : Tg h606 n553 = 143100 := ((pRT hh605).trans ((pNT hh600 (pN_n hh600 z599 e646)).trans e646))
    have e648 : Tg h617 n553 = 143100 := ((pRT hh616).trans ((pNT hh611 (pN_n hh611 z610 e647)).trans e647))
    have e649 : Tg h628 n553 = 143100 := ((pRT hh627).trans ((pNT hh622 (pN_n hh622 z621 e648)).trans e648))
    have e650 : Tg h639 n553 = 143100 := ((pRT hh638).trans ((pNT hh633 (pN_n hh633 z632 e649)).trans e649))
    have e651 : Rv h639 a0 44 = n564 := ((pR_j hh638 (by decide)).trans ((pNR hh633 (pN_n hh633 z632 e636)).trans ((pR_j hh627 (by decide)).trans ((pNR hh622 (pN_n hh622 z621 e625)).trans ((pR_j hh616 (by decide)).trans ((pNR hh611 (pN_n hh611 z610 e614)).trans ((pR_j hh605 (by decide)).trans ((pNR hh600 (pN_n hh600 z599 e603)).trans ((pR_j hh594 (by decide)).trans ((pNR hh589 (pN_n hh589 z588 e592)).trans ((pR_j hh583 (by decide)).trans ((pNR hh578 (pN_n hh578 z577 e581)).trans (pR_e hh572)))))))))))))
    have e652 : Tg h573 n564 = 144100 := ((pRT hh572).trans (pN_T hh567))
    have e653 : Tg h584 n564 = 144100 := ((pRT hh583).trans ((pNT hh578 (pN_n hh578 z577 e652)).trans e652))
    have e654 : Tg h595 n564 = 144100 := ((pRT hh594).trans ((pNT hh589 (pN_n hh589 z588 e653)).trans e653))
    have e655 : Tg h606 n564 = 144100 := ((pRT hh605).trans ((pNT hh600 (pN_n hh600 z599 e654)).trans e654))
    have e656 : Tg h617 n564 = 144100 := ((pRT hh616).trans ((pNT hh611 (pN_n hh611 z610 e655)).trans e655))
    have e657 : Tg h628 n564 = 144100 := ((pRT hh627).trans ((pNT hh622 (pN_n hh622 z621 e656)).trans e656))
    have e658 : Tg h639 n564 = 144100 := ((pRT hh638).trans ((pNT hh633 (pN_n hh633 z632 e657)).trans e657))
    have e659 : Rv h639 a0 45 = n575 := ((pR_j hh638 (by decide)).trans ((pNR hh633 (pN_n hh633 z632 e636)).trans ((pR_j hh627 (by decide)).trans ((pNR hh622 (pN_n hh622 z621 e625)).trans ((pR_j hh616 (by decide)).trans ((pNR hh611 (pN_n hh611 z610 e614)).trans ((pR_j hh605 (by decide)).trans ((pNR hh600 (pN_n hh600 z599 e603)).trans ((pR_j hh594 (by decide)).trans ((pNR hh589 (pN_n hh589 z588 e592)).trans (pR_e hh583)))))))))))
    have e660 : Tg h584 n575 = 145100 := ((pRT hh583).trans (pN_T hh578))
    have e661 : Tg h595 n575 = 145100 := ((pRT hh594).trans ((pNT hh589 (pN_n hh589 z588 e660)).trans e660))
    have e662 : Tg h606 n575 = 145100 := ((pRT hh605).trans ((pNT hh600 (pN_n hh600 z599 e661)).trans e661))
    have e663 : Tg h617 n575 = 145100 := ((pRT hh616).trans ((pNT hh611 (pN_n hh611 z610 e662)).trans e662))
    have e664 : Tg h628 n575 = 145100 := ((pRT hh627).trans ((pNT hh622 (pN_n hh622 z621 e663)).trans e663))
    have e665 : Tg h639 n575 = 145100 := ((pRT hh638).trans ((pNT hh633 (pN_n hh633 z632 e664)).trans e664))
    have e666 : Rv h639 a0 46 = n586 := ((pR_j hh638 (by decide)).trans ((pNR hh633 (pN_n hh633 z632 e636)).trans ((pR_j hh627 (by decide)).trans ((pNR hh622 (pN_n hh622 z621 e625)).trans ((pR_j hh616 (by decide)).trans ((pNR hh611 (pN_n hh611 z610 e614)).trans ((pR_j hh605 (by decide)).trans ((pNR hh600 (pN_n hh600 z599 e603)).trans (pR_e hh594)))))))))
    have e667 : Tg h595 n586 = 146100 := ((pRT hh594).trans (pN_T hh589))
    have e668 : Tg h606 n586 = 146100 := ((pRT hh605).trans ((pNT hh600 (pN_n hh600 z599 e667)).trans e667))
    have e669 : Tg h617 n586 = 146100 := ((pRT hh616).trans ((pNT hh611 (pN_n hh611 z610 e668)).trans e668))
    have e670 : Tg h628 n586 = 146100 := ((pRT hh627).trans ((pNT hh622 (pN_n hh622 z621 e669)).trans e669))
    have e671 : Tg h639 n586 = 146100 := ((pRT hh638).trans ((pNT hh633 (pN_n hh633 z632 e670)).trans e670))
    have e672 : Rv h639 a0 47 = n597 := ((pR_j hh638 (by decide)).trans ((pNR hh633 (pN_n hh633 z632 e636)).trans ((pR_j hh627 (by decide)).trans ((pNR hh622 (pN_n hh622 z621 e625)).trans ((pR_j hh616 (by decide)).trans ((pNR hh611 (pN_n hh611 z610 e614)).trans (pR_e hh605)))))))
    have e673 : Tg h606 n597 = 147100 := ((pRT hh605).trans (pN_T hh600))
    have e674 : Tg h617 n597 = 147100 := ((pRT hh616).trans ((pNT hh611 (pN_n hh611 z610 e673)).trans e673))
    have e675 : Tg h628 n597 = 147100 := ((pRT hh627).trans ((pNT hh622 (pN_n hh622 z621 e674)).trans e674))
    have e676 : Tg h639 n597 = 147100 := ((pRT hh638).trans ((pNT hh633 (pN_n hh633 z632 e675)).trans e675))
    have e677 : Rv h639 a0 48 = n608 := ((pR_j hh638 (by decide)).trans ((pNR hh633 (pN_n hh633 z632 e636)).trans ((pR_j hh627 (by decide)).trans ((pNR hh622 (pN_n hh622 z621 e625)).trans (pR_e hh616)))))
    have e678 : Tg h617 n608 = 148100 := ((pRT hh616).trans (pN_T hh611))
    have e679 : Tg h628 n608 = 148100 := ((pRT hh627).trans ((pNT hh622 (pN_n hh622 z621 e678)).trans e678))
    have e680 : Tg h639 n608 = 148100 := ((pRT hh638).trans ((pNT hh633 (pN_n hh633 z632 e679)).trans e679))
    have e681 : Rv h639 a0 49 = n619 := ((pR_j hh638 (by decide)).trans ((pNR hh633 (pN_n hh633 z632 e636)).trans (pR_e hh627)))
    have e682 : Tg h628 n619 = 149100 := ((pRT hh627).trans (pN_T hh622))
    have e683 : Tg h639 n619 = 149100 := ((pRT hh638).trans ((pNT hh633 (pN_n hh633 z632 e682)).trans e682))
    have e684 : Tg h639 n630 = 150100 := ((pRT hh638).trans (pN_T hh633))
    have p685 := (LZR_fx ((Fx.rf (wr := [202450]) (h := h634)).pR e637 hh638 rfl) e637 rfl (LZR_fx ((Fx.rf (wr := [1000150100]) (h := h628)).pN z632 hh633 rfl) e636 rfl (LZR_fx ((Fx.rf (wr := [202449]) (h := h623)).pR e626 hh627 rfl) e626 rfl (LZR_fx ((Fx.rf (wr := [1000149100]) (h := h617)).pN z621 hh622 rfl) e625 rfl (LZR_fx ((Fx.rf (wr := [202448]) (h := h612)).pR e615 hh616 rfl) e615 rfl (LZR_fx ((Fx.rf (wr := [1000148100]) (h := h606)).pN z610 hh611 rfl) e614 rfl (LZR_fx ((Fx.rf (wr := [202447]) (h := h601)).pR e604 hh605 rfl) e604 rfl (LZR_fx ((Fx.rf (wr := [1000147100]) (h := h595)).pN z599 hh600 rfl) e603 rfl (LZR_fx ((Fx.rf (wr := [202446]) (h := h590)).pR e593 hh594 rfl) e593 rfl (LZR_fx ((Fx.rf (wr := [1000146100]) (h := h584)).pN z588 hh589 rfl) e592 rfl (LZR_fx ((Fx.rf (wr := [202445]) (h := h579)).pR e582 hh583 rfl) e582 rfl (LZR_fx ((Fx.rf (wr := [1000145100]) (h := h573)).pN z577 hh578 rfl) e581 rfl (LZR_fx ((Fx.rf (wr := [202444]) (h := h568)).pR e571 hh572 rfl) e571 rfl (LZR_fx ((Fx.rf (wr := [1000144100]) (h := h562)).pN z566 hh567 rfl) e570 rfl (LZR_fx ((Fx.rf (wr := [202443]) (h := h557)).pR e560 hh561 rfl) e560 rfl (LZR_fx ((Fx.rf (wr := [1000143100]) (h := h547)).pN z555 hh556 rfl) e559 rfl p552))))))))))))))))
    exact J409 _ O640 ((((((((((((((((((Fx.rf (wr := [202401, 202404, 202405, 202406, 202409, 202411, 202412, 202413, 202414, 202415, 202416, 202417, 202418, 202419, 202420, 202421, 202422, 202423, 202424, 202425, 202426, 202427, 202429, 202430, 202431, 202432, 202434, 202435, 202436, 202437, 202438, 202439, 202441, 202442, 202443, 202444, 202445, 202446, 202447, 202448, 202449, 202450, 202451, 202452, 202453, 202454, 202455, 202456, 202458, 202459, 202460, 202461, 202463, 202464, 202465, 202466, 202467, 202468, 202470, 202471, 202472, 202473, 202474, 202475, 202476, 202481, 202482, 202484, 202485, 202486, 21820400, 27220000, 27420200, 27820000, 1000101100, 1000104100, 1000105100, 1000106102, 1000109102, 1000111100, 1000112100, 1000113102, 1000114100, 1000115100, 1000116101, 1000117101, 1000118101, 1000119100, 1000120101, 1000121100, 1000122100, 1000123100, 1000124100, 1000125100, 1000126100, 1000127100, 1000129100, 1000130100, 1000131100, 1000132100, 1000136100, 1000137101, 1000138101, 1000139100, 1000141100, 1000142100, 1000143100, 1000144100, 1000145100, 1000146100, 1000147100, 1000148100, 1000149100, 1000150100, 1000151100, 1000152101, 1000153101, 1000154100, 1000155100, 1000156100, 1000158101, 1000159100, 1000160100, 1000161100, 1000163100, 1000164100, 1000165100, 1000166100, 1000167100, 1000168100, 1000170101, 1000171100, 1000172102, 1000173101, 1000174101, 1000175100, 1000176100, 1000181100, 1000182101, 1000184100, 1000185100, 1000186100]) (h := h)).call F550 rfl).pN z555 hh556 rfl).pR e560 hh561 rfl).pN z566 hh567 rfl).pR e571 hh572 rfl).pN z577 hh578 rfl).pR e582 hh583 rfl).pN z588 hh589 rfl).pR e593 hh594 rfl).pN z599 hh600 rfl).pR e604 hh605 rfl).pN z610 hh611 rfl).pR e615 hh616 rfl).pN z621 hh622 rfl).pR e626 hh627 rfl).pN z632 hh633 rfl).pR e637 hh638 rfl) (NZ_cons (by rw [(pR_e hh638)]; exact nz_of O640 e684) (NZ_cons (by rw [e681]; exact nz_of O640 e683) (NZ_cons (by rw [e677]; exact nz_of O640 e680) (NZ_cons (by rw [e672]; exact nz_of O640 e676) (NZ_cons (by rw [e666]; exact nz_of O640 e671) (NZ_cons (by rw [e659]; exact nz_of O640 e665) (NZ_cons (by rw [e651]; exact nz_of O640 e658) (NZ_cons (by rw [e642]; exact nz_of O640 e650) p641)))))))) p685
  have J687 : ∀ (h686 : Hp), Okh h686 → Fx [202401, 202404, 202405, 202406, 202409, 202411, 202412, 202413, 202414, 202415, 202416, 202417, 202418, 202419, 202420, 202421, 202422, 202423, 202424, 202425, 202426, 202427, 202429, 202430, 202431, 202432, 202434, 202435, 202436, 202437, 202438, 202439, 202441, 202442, 202443, 202444, 202445, 202446, 202447, 202448, 202449, 202450, 202451, 202452, 202453, 202454, 202455, 202456, 202458, 202459, 202460, 202461, 202463, 202464, 202465, 202466, 202467, 202468, 202470, 202471, 202472, 202473, 202474, 202475, 202476, 202481, 202482, 202484, 202485, 202486, 21820400, 27220000, 27420200, 27820000, 1000101100, 1000104100, 1000105100, 1000106102, 1000109102, 1000111100, 1000112100, 1000113102, 1000114100, 1000115100, 1000116101, 1000117101, 1000118101, 1000119100, 1000120101, 1000121100, 1000122100, 1000123100, 1000124100, 1000125100, 1000126100, 1000127100, 1000129100, 1000130100, 1000131100, 1000132100, 1000136100, 1000137101, 1000138101, 1000139100, 1000141100, 1000142100, 1000143100, 1000144100, 1000145100, 1000146100, 1000147100, 1000148100, 1000149100, 1000150100, 1000151100, 1000152101, 1000153101, 1000154100, 1000155100, 1000156100, 1000158101, 1000159100, 1000160100, 1000161100, 1000163100, 1000164100, 1000165100, 1000166100, 1000167100, 1000168100, 1000170101, 1000171100, 1000172102, 1000173101, 1000174101, 1000175100, 1000176100, 1000181100, 1000182101, 1000184100, 1000185100, 1000186100] h h686 → NZ h686 a0 [30, 29, 27, 26, 25, 24, 23, 22, 21, 20, 19, 18, 17, 16, 15, 14, 13, 12, 11, 9, 6, 5, 4, 1] → LZR h686 a0 → GW p l e (rmm 1 24 68 46508) s m (List.map toV [.inr (.inr a0)]).toArray below meth c D cy z0 2 (MQ below (QV D cy z0 (fun h1 => Okh h1 ∧ Fx wr_k_X12_init h h1 ∧ (¬ Rv h1 a0 1 = 0) ∧ (¬ Rv h1 a0 4 = 0) ∧ (¬ Rv h1 a0 5 = 0) ∧ (¬ Rv h1 a0 6 = 0) ∧ (¬ Rv h1 a0 9 = 0) ∧ (¬ Rv h1 a0 11 = 0) ∧ (¬ Rv h1 a0 12 = 0) ∧ (¬ Rv h1 a0 13 = 0) ∧ (¬ Rv h1 a0 14 = 0) ∧ (¬ Rv h1 a0 15 = 0) ∧ (¬ Rv h1 a0 16 = 0) ∧ (¬ Rv h1 a0 17 = 0) ∧ (¬ Rv h1 a0 18 = 0) ∧ (¬ Rv h1 a0 19 = 0) ∧ (¬ Rv h1 a0 20 = 0) ∧ (¬ Rv h1 a0 21 = 0) ∧ (¬ Rv h1 a0 22 = 0) ∧ (¬ Rv h1 a0 23 = 0) ∧ (¬ Rv h1 a0 24 = 0) ∧ (¬ Rv h1 a0 25 = 0) ∧ (¬ Rv h1 a0 26 = 0) ∧ (¬ Rv h1 a0 27 = 0) ∧ (¬ Rv h1 a0 29 = 0) ∧ (¬ Rv h1 a0 30 = 0) ∧ (¬ Rv h1 a0 31 = 0) ∧ (¬ Rv h1 a0 32 = 0) ∧ (¬ Rv h1 a0 36 = 0) ∧ (¬ Rv h1 a0 37 = 0) ∧ (¬ Rv h1 a0 38 = 0) ∧ (¬ Rv h1 a0 39 = 0) ∧ (¬ Rv h1 a0 41 = 0) ∧ (¬ Rv h1 a0 42 = 0) ∧ (¬ Rv h1 a0 43 = 0) ∧ (¬ Rv h1 a0 44 = 0) ∧ (¬ Rv h1 a0 45 = 0) ∧ (¬ Rv h1 a0 46 = 0) ∧ (¬ Rv h1 a0 47 = 0) ∧ (¬ Rv h1 a0 48 = 0) ∧ (¬ Rv h1 a0 49 = 0) ∧ (¬ Rv h1 a0 50 = 0) ∧ (¬ Rv h1 a0 51 = 0) ∧ (¬ Rv h1 a0 52 = 0) ∧ (¬ Rv h1 a0 53 = 0) ∧ (¬ Rv h1 a0 54 = 0) ∧ (¬ Rv h1 a0 55 = 0) ∧ (¬ Rv h1 a0 56 = 0) ∧ (¬ Rv h1 a0 58 = 0) ∧ (¬ Rv h1 a0 59 = 0) ∧ (¬ Rv h1 a0 60 = 0) ∧ (¬ Rv h1 a0 61 = 0) ∧ (¬ Rv h1 a0 63 = 0) ∧ (¬ Rv h1 a0 64 = 0) ∧ (¬ Rv h1 a0 65 = 0) ∧ (¬ Rv h1 a0 66 = 0) ∧ (¬ Rv h1 a0 67 = 0) ∧ (¬ Rv h1 a0 68 = 0) ∧ (¬ Rv h1 a0 70 = 0) ∧ (¬ Rv h1 a0 71 = 0) ∧ (¬ Rv h1 a0 72 = 0) ∧ (¬ Rv h1 a0 73 = 0) ∧ (¬ Rv h1 a0 74 = 0) ∧ (¬ Rv h1 a0 75 = 0) ∧ (¬ Rv h1 a0 76 = 0) ∧ (¬ Rv h1 a0 81 = 0) ∧ (¬ Rv h1 a0 82 = 0) ∧ (¬ Rv h1 a0 84 = 0) ∧ (¬ Rv h1 a0 85 = 0) ∧ (¬ Rv h1 a0 86 = 0) ∧ (MInv h1 a0))) (List.map toV [.inr (.inr a0)]).toArray s 68 46508 (Aof z0)) 409 [(0, .inr (.inr a0))] [] h686 24 36177 := by
    intro h686 O688 F689 p690 p691
    refine g_aload_n C rfl 0 rfl dX12_init_409 ?_
    refine g_bipush C (by decide) dX12_init_410 ?_
    refine g_newa (atype := .int) (t := 0) (ty := .int) (N := 12) C 131100 rfl (iw (il 12) (by decide) (by decide)) (by decide) rfl kw_224 rfl (fun _ => rfl) (by decide) (by decide) (by decide) (by decide) dX12_init_412 (fun n692 z693 z694 h696 hh695 => ?_)
    have O697 := O688.pN z693 z694 hh695 (by decide) nn_131100
    have e698 : Tg h686 a0 = 1012 := (fxT F689 ta0)
    have e699 : Tg h696 a0 = 1012 := ((pNT hh695 (pN_n hh695 z694 e698)).trans e698)
    refine gp_RF C fk_LandSurveyModel_155 pk_LandSurveyModel_31 rfl e699 hn rfl (nf_a _ _) dX12_init_414 (fun h701 hh700 => ?_)
    have O702 := O697.pR e699 hh700 (okR_l rE_1012_31 (pN_T hh695) (pN_L hh695))
    refine g_aload_n C rfl 0 rfl dX12_init_417 ?_
    refine g_sipush C (by decide) dX12_init_418 ?_
    refine g_newa (atype := .int) (t := 0) (ty := .int) (N := 1600) C 132100 rfl (iw (il 1600) (by decide) (by decide)) (by decide) rfl kw_224 rfl (fun _ => rfl) (by decide) (by decide) (by decide) (by decide) dX12_init_421 (fun n703 z704 z705 h707 hh706 => ?_)
    have O708 := O702.pN z704 z705 hh706 (by decide) nn_132100
    have e709 : Tg h701 a0 = 1012 := ((pRT hh700).trans e699)
    have e710 : Tg h707 a0 = 1012 := ((pNT hh706 (pN_n hh706 z705 e709)).trans e709)
    refine gp_RF C fk_LandSurveyModel_158 pk_LandSurveyModel_32 rfl e710 hn rfl (nf_a _ _) dX12_init_423 (fun h712 hh711 => ?_)
    have O713 := O708.pR e710 hh711 (okR_l rE_1012_32 (pN_T hh706) (pN_L hh706))
    refine g_aload_n C rfl 0 rfl dX12_init_426 ?_
    refine g_bipush C (by decide) dX12_init_427 ?_
    refine g_newa (atype := .int) (t := 0) (ty := .int) (N := 96) C 136100 rfl (iw (il 96) (by decide) (by decide)) (by decide) rfl kw_224 rfl (fun _ => rfl) (by decide) (by decide) (by decide) (by decide) dX12_init_429 (fun n714 z715 z716 h718 hh717 => ?_)
    have O719 := O713.pN z715 z716 hh717 (by decide) nn_136100
    have e720 : Tg h712 a0 = 1012 := ((pRT hh711).trans e710)
    have e721 : Tg h718 a0 = 1012 := ((pNT hh717 (pN_n hh717 z716 e720)).trans e720)
    refine gp_RF C fk_LandSurveyModel_161 pk_LandSurveyModel_36 rfl e721 hn rfl (nf_a _ _) dX12_init_431 (fun h723 hh722 => ?_)
    have O724 := O719.pR e721 hh722 (okR_l rE_1012_36 (pN_T hh717) (pN_L hh717))
    refine g_aload_n C rfl 0 rfl dX12_init_434 ?_
    refine g_bipush C (by decide) dX12_init_435 ?_
    refine g_newa (atype := .boolean) (t := 1) (ty := .boolean) (N := 96) C 137101 rfl (iw (il 96) (by decide) (by decide)) (by decide) rfl kw_225 rfl (fun _ => rfl) (by decide) (by decide) (by decide) (by decide) dX12_init_437 (fun n725 z726 z727 h729 hh728 => ?_)
    have O730 := O724.pN z726 z727 hh728 (by decide) nn_137101
    have e731 : Tg h723 a0 = 1012 := ((pRT hh722).trans e721)
    have e732 : Tg h729 a0 = 1012 := ((pNT hh728 (pN_n hh728 z727 e731)).trans e731)
    refine gp_RF C fk_LandSurveyModel_164 pk_LandSurveyModel_37 rfl e732 hn rfl (nf_a _ _) dX12_init_439 (fun h734 hh733 => ?_)
    have O735 := O730.pR e732 hh733 (okR_l rE_1012_37 (pN_T hh728) (pN_L hh728))
    refine g_aload_n C rfl 0 rfl dX12_init_442 ?_
    refine g_bipush C (by decide) dX12_init_443 ?_
    refine g_newa (atype := .boolean) (t := 1) (ty := .boolean) (N := 96) C 138101 rfl (iw (il 96) (by decide) (by decide)) (by decide) rfl kw_225 rfl (fun _ => rfl) (by decide) (by decide) (by decide) (by decide) dX12_init_445 (fun n736 z737 z738 h740 hh739 => ?_)
    have O741 := O735.pN z737 z738 hh739 (by decide) nn_138101
    have e742 : Tg h734 a0 = 1012 := ((pRT hh733).trans e732)
    have e743 : Tg h740 a0 = 1012 := ((pNT hh739 (pN_n hh739 z738 e742)).trans e742)
    refine gp_RF C fk_LandSurveyModel_167 pk_LandSurveyModel_38 rfl e743 hn rfl (nf_a _ _) dX12_init_447 (fun h745 hh744 => ?_)
    have O746 := O741.pR e743 hh744 (okR_l rE_1012_38 (pN_T hh739) (pN_L hh739))
    refine g_aload_n C rfl 0 rfl dX12_init_450 ?_
    refine g_bipush C (by decide) dX12_init_451 ?_
    refine g_newa (atype := .int) (t := 0) (ty := .int) (N := 96) C 139100 rfl (iw (il 96) (by decide) (by decide)) (by decide) rfl kw_224 rfl (fun _ => rfl) (by decide) (by decide) (by decide) (by decide) dX12_init_453 (fun n747 z748 z749 h751 hh750 => ?_)
    have O752 := O746.pN z748 z749 hh750 (by decide) nn_139100
    have e753 : Tg h745 a0 = 1012 := ((pRT hh744).trans e743)
    have e754 : Tg h751 a0 = 1012 := ((pNT hh750 (pN_n hh750 z749 e753)).trans e753)
    refine gp_RF C fk_LandSurveyModel_170 pk_LandSurveyModel_39 rfl e754 hn rfl (nf_a _ _) dX12_init_455 (fun h756 hh755 => ?_)
    have O757 := O752.pR e754 hh755 (okR_l rE_1012_39 (pN_T hh750) (pN_L hh750))
    refine g_aload_n C rfl 0 rfl dX12_init_458 ?_
    refine g_bipush C (by decide) dX12_init_459 ?_
    refine g_newa (atype := .int) (t := 0) (ty := .int) (N := 40) C 141100 rfl (iw (il 40) (by decide) (by decide)) (by decide) rfl kw_224 rfl (fun _ => rfl) (by decide) (by decide) (by decide) (by decide) dX12_init_461 (fun n758 z759 z760 h762 hh761 => ?_)
    have O763 := O757.pN z759 z760 hh761 (by decide) nn_141100
    have e764 : Tg h756 a0 = 1012 := ((pRT hh755).trans e754)
    have e765 : Tg h762 a0 = 1012 := ((pNT hh761 (pN_n hh761 z760 e764)).trans e764)
    refine gp_RF C fk_LandSurveyModel_173 pk_LandSurveyModel_41 rfl e765 hn rfl (nf_a _ _) dX12_init_463 (fun h767 hh766 => ?_)
    have O768 := O763.pR e765 hh766 (okR_l rE_1012_41 (pN_T hh761) (pN_L hh761))
    refine g_aload_n C rfl 0 rfl dX12_init_466 ?_
    refine g_bipush C (by decide) dX12_init_467 ?_
    refine g_newa (atype := .int) (t := 0) (ty := .int) (N := 40) C 142100 rfl (iw (il 40) (by decide) (by decide)) (by decide) rfl kw_224 rfl (fun _ => rfl) (by decide) (by decide) (by decide) (by decide) dX12_init_469 (fun n769 z770 z771 h773 hh772 => ?_)
    have O774 := O768.pN z770 z771 hh772 (by decide) nn_142100
    have e775 : Tg h767 a0 = 1012 := ((pRT hh766).trans e765)
    have e776 : Tg h773 a0 = 1012 := ((pNT hh772 (pN_n hh772 z771 e775)).trans e775)
    refine gp_RF C fk_LandSurveyModel_176 pk_LandSurveyModel_42 rfl e776 hn rfl (nf_a _ _) dX12_init_471 (fun h778 hh777 => ?_)
    have O779 := O774.pR e776 hh777 (okR_l rE_1012_42 (pN_T hh772) (pN_L hh772))
    refine GW.sub [0] rfl ?_
    have p780 := (NZ_fx ((Fx.rf (wr := [202442]) (h := h773)).pR e776 hh777 rfl) e776 (by decide) (NZ_fx ((Fx.rf (wr := [1000142100]) (h := h767)).pN z771 hh772 rfl) e775 (by decide) (NZ_fx ((Fx.rf (wr := [202441]) (h := h762)).pR e765 hh766 rfl) e765 (by decide) (NZ_fx ((Fx.rf (wr := [1000141100]) (h := h756)).pN z760 hh761 rfl) e764 (by decide) (NZ_fx ((Fx.rf (wr := [202439]) (h := h751)).pR e754 hh755 rfl) e754 (by decide) (NZ_fx ((Fx.rf (wr := [1000139100]) (h := h745)).pN z749 hh750 rfl) e753 (by decide) (NZ_fx ((Fx.rf (wr := [202438]) (h := h740)).pR e743 hh744 rfl) e743 (by decide) (NZ_fx ((Fx.rf (wr := [1000138101]) (h := h734)).pN z738 hh739 rfl) e742 (by decide) (NZ_fx ((Fx.rf (wr := [202437]) (h := h729)).pR e732 hh733 rfl) e732 (by decide) (NZ_fx ((Fx.rf (wr := [1000137101]) (h := h723)).pN z727 hh728 rfl) e731 (by decide) (NZ_fx ((Fx.rf (wr := [202436]) (h := h718)).pR e721 hh722 rfl) e721 (by decide) (NZ_fx ((Fx.rf (wr := [1000136100]) (h := h712)).pN z716 hh717 rfl) e720 (by decide) (NZ_fx ((Fx.rf (wr := [202432]) (h := h707)).pR e710 hh711 rfl) e710 (by decide) (NZ_fx ((Fx.rf (wr := [1000132100]) (h := h701)).pN z705 hh706 rfl) e709 (by decide) (NZ_fx ((Fx.rf (wr := [202431]) (h := h696)).pR e699 hh700 rfl) e699 (by decide) (NZ_fx ((Fx.rf (wr := [1000131100]) (h := h686)).pN z694 hh695 rfl) e698 (by decide) p690))))))))))))))))
    have e781 : Rv h778 a0 31 = n692 := ((pR_j hh777 (by decide)).trans ((pNR hh772 (pN_n hh772 z771 e775)).trans ((pR_j hh766 (by decide)).trans ((pNR hh761 (pN_n hh761 z760 e764)).trans ((pR_j hh755 (by decide)).trans ((pNR hh750 (pN_n hh750 z749 e753)).trans ((pR_j hh744 (by decide)).trans ((pNR hh739 (pN_n hh739 z738 e742)).trans ((pR_j hh733 (by decide)).trans ((pNR hh728 (pN_n hh728 z727 e731)).trans ((pR_j hh722 (by decide)).trans ((pNR hh717 (pN_n hh717 z716 e720)).trans ((pR_j hh711 (by decide)).trans ((pNR hh706 (pN_n hh706 z705 e709)).trans (pR_e hh700)))))))))))))))
    have e782 : Tg h701 n692 = 131100 := ((pRT hh700).trans (pN_T hh695))
    have e783 : Tg h712 n692 = 131100 := ((pRT hh711).trans ((pNT hh706 (pN_n hh706 z705 e782)).trans e782))
    have e784 : Tg h723 n692 = 131100 := ((pRT hh722).trans ((pNT hh717 (pN_n hh717 z716 e783)).trans e783))
    have e785 : Tg h734 n692 = 131100 := ((pRT hh733).trans ((pNT hh728 (pN_n hh728 z727 e784)).trans e784))
    have e786 : Tg h745 n692 = 131100 := ((pRT hh744).trans ((pNT hh739 (pN_n hh739 z738 e785)).trans e785))
    have e787 : Tg h756 n692 = 131100 := ((pRT hh755).trans ((pNT hh750 (pN_n hh750 z749 e786)).trans e786))
    have e788 : Tg h767 n692 = 131100 := ((pRT hh766).trans ((pNT hh761 (pN_n hh761 z760 e787)).trans e787))
    have e789 : Tg h778 n692 = 131100 := ((pRT hh777).trans ((pNT hh772 (pN_n hh772 z771 e788)).trans e788))
    have e790 : Rv h778 a0 32 = n703 := ((pR_j hh777 (by decide)).trans ((pNR hh772 (pN_n hh772 z771 e775)).trans ((pR_j hh766 (by decide)).trans ((pNR hh761 (pN_n hh761 z760 e764)).trans ((pR_j hh755 (by decide)).trans ((pNR hh750 (pN_n hh750 z749 e753)).trans ((pR_j hh744 (by decide)).trans ((pNR hh739 (pN_n hh739 z738 e742)).trans ((pR_j hh733 (by decide)).trans ((pNR hh728 (pN_n hh728 z727 e731)).trans ((pR_j hh722 (by decide)).trans ((pNR hh717 (pN_n hh717 z716 e720)).trans (pR_e hh711)))))))))))))
    have e791 : Tg h712 n703 = 132100 := ((pRT hh711).trans (pN_T hh706))
    have e792 : Tg h723 n703 = 132100 := ((pRT hh722).trans ((pNT hh717 (pN_n hh717 z716 e791)).trans e791))
    have e793 : Tg h734 n703 = 132100 := ((pRT hh733).trans ((pNT hh728 (pN_n hh728 z727 e792)).trans e792))
    have e794 : Tg h745 n703 = 132100 := ((pRT hh744).trans ((pNT hh739 (pN_n hh739 z738 e793)).trans e793))
    have e795 : Tg h756 n703 = 132100 := ((pRT hh755).trans ((pNT hh750 (pN_n hh750 z749 e794)).trans e794))
    have e796 : Tg h767 n703 = 132100 := ((pRT hh766).trans ((pNT hh761 (pN_n hh761 z760 e795)).trans e795))
    have e797 : Tg h778 n703 = 132100 := ((pRT hh777).trans ((pNT hh772 (pN_n hh772 z771 e796)).trans e796))
    have e798 : Rv h778 a0 36 = n714 := ((pR_j hh777 (by decide)).trans ((pNR hh772 (pN_n hh772 z771 e775)).trans ((pR_j hh766 (by decide)).trans ((pNR hh761 (pN_n hh761 z760 e764)).trans ((pR_j hh755 (by decide)).trans ((pNR hh750 (pN_n hh750 z749 e753)).trans ((pR_j hh744 (by decide)).trans ((pNR hh739 (pN_n hh739 z738 e742)).trans ((pR_j hh733 (by decide)).trans ((pNR hh728 (pN_n hh728 z727 e731)).trans (pR_e hh722)))))))))))
    have e799 : Tg h723 n714 = 136100 := ((pRT hh722).trans (pN_T hh717))
    have e800 : Tg h734 n714 = 136100 := ((pRT hh733).trans ((pNT hh728 (pN_n hh728 z727 e799)).trans e799))
    have e801 : Tg h745 n714 = 136100 := ((pRT hh744).trans ((pNT hh739 (pN_n hh739 z738 e800)).trans e800))
    have e802 : Tg h756 n714 = 136100 := ((pRT hh755).trans ((pNT hh750 (pN_n hh750 z749 e801)).trans e801))
    have e803 : Tg h767 n714 = 136100 := ((pRT hh766).trans ((pNT hh761 (pN_n hh761 z760 e802)).trans e802))
    have e804 : Tg h778 n714 = 136100 := ((pRT hh777).trans ((pNT hh772 (pN_n hh772 z771 e803)).trans e803))
    have e805 : Rv h778 a0 37 = n725 := ((pR_j hh777 (by decide)).trans ((pNR hh772 (pN_n hh772 z771 e775)).trans ((pR_j hh766 (by decide)).trans ((pNR hh761 (pN_n hh761 z760 e764)).trans ((pR_j hh755 (by decide)).trans ((pNR hh750 (pN_n hh750 z749 e753)).trans ((pR_j hh744 (by decide)).trans ((pNR hh739 (pN_n hh739 z738 e742)).trans (pR_e hh733)))))))))
    have e806 : Tg h734 n725 = 137101 := ((pRT hh733).trans (pN_T hh728))
    have e807 : Tg h745 n725 = 137101 := ((pRT hh744).trans ((pNT hh739 (pN_n hh739 z738 e806)).trans e806))
    have e808 : Tg h756 n725 = 137101 := ((pRT hh755).trans ((pNT hh750 (pN_n hh750 z749 e807)).trans e807))
    have e809 : Tg h767 n725 = 137101 := ((pRT hh766).trans ((pNT hh761 (pN_n hh761 z760 e808)).trans e808))
    have e810 : Tg h778 n725 = 137101 := ((pRT hh777).trans ((pNT hh772 (pN_n hh772 z771 e809)).trans e809))
    have e811 : Rv h778 a0 38 = n736 := ((pR_j hh777 (by decide)).trans ((pNR hh772 (pN_n hh772 z771 e775)).trans ((pR_j hh766 (by decide)).trans ((pNR hh761 (pN_n hh761 z760 e764)).trans ((pR_j hh755 (by decide)).trans ((pNR hh750 (pN_n hh750 z749 e753)).trans (pR_e hh744)))))))
    have e812 : Tg h745 n736 = 138101 := ((pRT hh744).trans (pN_T hh739))
    have e813 : Tg h756 n736 = 138101 := ((pRT hh755).trans ((pNT hh750 (pN_n hh750 z749 e812)).trans e812))
    have e814 : Tg h767 n736 = 138101 := ((pRT hh766).trans ((pNT hh761 (pN_n hh761 z760 e813)).trans e813))
    have e815 : Tg h778 n736 = 138101 := ((pRT hh777).trans ((pNT hh772 (pN_n hh772 z771 e814)).trans e814))
    have e816 : Rv h778 a0 39 = n747 := ((pR_j hh777 (by decide)).trans ((pNR hh772 (pN_n hh772 z771 e775)).trans ((pR_j hh766 (by decide)).trans ((pNR hh761 (pN_n hh761 z760 e764)).trans (pR_e hh755)))))
    have e817 : Tg h756 n747 = 139100 := ((pRT hh755).trans (pN_T hh750))
    have e818 : Tg h767 n747 = 139100 := ((pRT hh766).trans ((pNT hh761 (pN_n hh761 z760 e817)).trans e817))
    have e819 : Tg h778 n747 = 139100 := ((pRT hh777).trans ((pNT hh772 (pN_n hh772 z771 e818)).trans e818))
    have e820 : Rv h778 a0 41 = n758 := ((pR_j hh777 (by decide)).trans ((pNR hh772 (pN_n hh772 z771 e775)).trans (pR_e hh766)))
    have e821 : Tg h767 n758 = 141100 := ((pRT hh766).trans (pN_T hh761))
    have e822 : Tg h778 n758 = 141100 := ((pRT hh777).trans ((pNT hh772 (pN_n hh772 z771 e821)).trans e821))
    have e823 : Tg h778 n769 = 142100 := ((pRT hh777).trans (pN_T hh772))
    have p824 := (LZR_fx ((Fx.rf (wr := [202442]) (h := h773)).pR e776 hh777 rfl) e776 rfl (LZR_fx ((Fx.rf (wr := [1000142100]) (h := h767)).pN z771 hh772 rfl) e775 rfl (LZR_fx ((Fx.rf (wr := [202441]) (h := h762)).pR e765 hh766 rfl) e765 rfl (LZR_fx ((Fx.rf (wr := [1000141100]) (h := h756)).pN z760 hh761 rfl) e764 rfl (LZR_fx ((Fx.rf (wr := [202439]) (h := h751)).pR e754 hh755 rfl) e754 rfl (LZR_fx ((Fx.rf (wr := [1000139100]) (h := h745)).pN z749 hh750 rfl) e753 rfl (LZR_fx ((Fx.rf (wr := [202438]) (h := h740)).pR e743 hh744 rfl) e743 rfl (LZR_fx ((Fx.rf (wr := [1000138101]) (h := h734)).pN z738 hh739 rfl) e742 rfl (LZR_fx ((Fx.rf (wr := [202437]) (h := h729)).pR e732 hh733 rfl) e732 rfl (LZR_fx ((Fx.rf (wr := [1000137101]) (h := h723)).pN z727 hh728 rfl) e731 rfl (LZR_fx ((Fx.rf (wr := [202436]) (h := h718)).pR e721 hh722 rfl) e721 rfl (LZR_fx ((Fx.rf (wr := [1000136100]) (h := h712)).pN z716 hh717 rfl) e720 rfl (LZR_fx ((Fx.rf (wr := [202432]) (h := h707)).pR e710 hh711 rfl) e710 rfl (LZR_fx ((Fx.rf (wr := [1000132100]) (h := h701)).pN z705 hh706 rfl) e709 rfl (LZR_fx ((Fx.rf (wr := [202431]) (h := h696)).pR e699 hh700 rfl) e699 rfl (LZR_fx ((Fx.rf (wr := [1000131100]) (h := h686)).pN z694 hh695 rfl) e698 rfl p691))))))))))))))))
    exact J548 _ O779 ((((((((((((((((((Fx.rf (wr := [202401, 202404, 202405, 202406, 202409, 202411, 202412, 202413, 202414, 202415, 202416, 202417, 202418, 202419, 202420, 202421, 202422, 202423, 202424, 202425, 202426, 202427, 202429, 202430, 202431, 202432, 202434, 202435, 202436, 202437, 202438, 202439, 202441, 202442, 202443, 202444, 202445, 202446, 202447, 202448, 202449, 202450, 202451, 202452, 202453, 202454, 202455, 202456, 202458, 202459, 202460, 202461, 202463, 202464, 202465, 202466, 202467, 202468, 202470, 202471, 202472, 202473, 202474, 202475, 202476, 202481, 202482, 202484, 202485, 202486, 21820400, 27220000, 27420200, 27820000, 1000101100, 1000104100, 1000105100, 1000106102, 1000109102, 1000111100, 1000112100, 1000113102, 1000114100, 1000115100, 1000116101, 1000117101, 1000118101, 1000119100, 1000120101, 1000121100, 1000122100, 1000123100, 1000124100, 1000125100, 1000126100, 1000127100, 1000129100, 1000130100, 1000131100, 1000132100, 1000136100, 1000137101, 1000138101, 1000139100, 1000141100, 1000142100, 1000143100, 1000144100, 1000145100, 1000146100, 1000147100, 1000148100, 1000149100, 1000150100, 1000151100, 1000152101, 1000153101, 1000154100, 1000155100, 1000156100, 1000158101, 1000159100, 1000160100, 1000161100, 1000163100, 1000164100, 1000165100, 1000166100, 1000167100, 1000168100, 1000170101, 1000171100, 1000172102, 1000173101, 1000174101, 1000175100, 1000176100, 1000181100, 1000182101, 1000184100, 1000185100, 1000186100]) (h := h)).call F689 rfl).pN z694 hh695 rfl).pR e699 hh700 rfl).pN z705 hh706 rfl).pR e710 hh711 rfl).pN z716 hh717 rfl).pR e721 hh722 rfl).pN z727 hh728 rfl).pR e732 hh733 rfl).pN z738 hh739 rfl).pR e743 hh744 rfl).pN z749 hh750 rfl).pR e754 hh755 rfl).pN z760 hh761 rfl).pR e765 hh766 rfl).pN z771 hh772 rfl).pR e776 hh777 rfl) (NZ_cons (by rw [(pR_e hh777)]; exact nz_of O779 e823) (NZ_cons (by rw [e820]; exact nz_of O779 e822) (NZ_cons (by rw [e816]; exact nz_of O779 e819) (NZ_cons (by rw [e811]; exact nz_of O779 e815) (NZ_cons (by rw [e805]; exact nz_of O779 e810) (NZ_cons (by rw [e798]; exact nz_of O779 e804) (NZ_cons (by rw [e790]; exact nz_of O779 e797) (NZ_cons (by rw [e781]; exact nz_of O779 e789) p780)))))))) p824
  have J826 : ∀ (h825 : Hp), Okh h825 → Fx [202401, 202404, 202405, 202406, 202409, 202411, 202412, 202413, 202414, 202415, 202416, 202417, 202418, 202419, 202420, 202421, 202422, 202423, 202424, 202425, 202426, 202427, 202429, 202430, 202431, 202432, 202434, 202435, 202436, 202437, 202438, 202439, 202441, 202442, 202443, 202444, 202445, 202446, 202447, 202448, 202449, 202450, 202451, 202452, 202453, 202454, 202455, 202456, 202458, 202459, 202460, 202461, 202463, 202464, 202465, 202466, 202467, 202468, 202470, 202471, 202472, 202473, 202474, 202475, 202476, 202481, 202482, 202484, 202485, 202486, 21820400, 27220000, 27420200, 27820000, 1000101100, 1000104100, 1000105100, 1000106102, 1000109102, 1000111100, 1000112100, 1000113102, 1000114100, 1000115100, 1000116101, 1000117101, 1000118101, 1000119100, 1000120101, 1000121100, 1000122100, 1000123100, 1000124100, 1000125100, 1000126100, 1000127100, 1000129100, 1000130100, 1000131100, 1000132100, 1000136100, 1000137101, 1000138101, 1000139100, 1000141100, 1000142100, 1000143100, 1000144100, 1000145100, 1000146100, 1000147100, 1000148100, 1000149100, 1000150100, 1000151100, 1000152101, 1000153101, 1000154100, 1000155100, 1000156100, 1000158101, 1000159100, 1000160100, 1000161100, 1000163100, 1000164100, 1000165100, 1000166100, 1000167100, 1000168100, 1000170101, 1000171100, 1000172102, 1000173101, 1000174101, 1000175100, 1000176100, 1000181100, 1000182101, 1000184100, 1000185100, 1000186100] h h825 → NZ h825 a0 [21, 20, 19, 18, 17, 16, 15, 14, 13, 12, 11, 9, 6, 5, 4, 1] → GW p l e (rmm 1 24 68 46508) s m (List.map toV [.inr (.inr a0)]).toArray below meth c D cy z0 2 (MQ below (QV D cy z0 (fun h1 => Okh h1 ∧ Fx wr_k_X12_init h h1 ∧ (¬ Rv h1 a0 1 = 0) ∧ (¬ Rv h1 a0 4 = 0) ∧ (¬ Rv h1 a0 5 = 0) ∧ (¬ Rv h1 a0 6 = 0) ∧ (¬ Rv h1 a0 9 = 0) ∧ (¬ Rv h1 a0 11 = 0) ∧ (¬ Rv h1 a0 12 = 0) ∧ (¬ Rv h1 a0 13 = 0) ∧ (¬ Rv h1 a0 14 = 0) ∧ (¬ Rv h1 a0 15 = 0) ∧ (¬ Rv h1 a0 16 = 0) ∧ (¬ Rv h1 a0 17 = 0) ∧ (¬ Rv h1 a0 18 = 0) ∧ (¬ Rv h1 a0 19 = 0) ∧ (¬ Rv h1 a0 20 = 0) ∧ (¬ Rv h1 a0 21 = 0) ∧ (¬ Rv h1 a0 22 = 0) ∧ (¬ Rv h1 a0 23 = 0) ∧ (¬ Rv h1 a0 24 = 0) ∧ (¬ Rv h1 a0 25 = 0) ∧ (¬ Rv h1 a0 26 = 0) ∧ (¬ Rv h1 a0 27 = 0) ∧ (¬ Rv h1 a0 29 = 0) ∧ (¬ Rv h1 a0 30 = 0) ∧ (¬ Rv h1 a0 31 = 0) ∧ (¬ Rv h1 a0 32 = 0) ∧ (¬ Rv h1 a0 36 = 0) ∧ (¬ Rv h1 a0 37 = 0) ∧ (¬ Rv h1 a0 38 = 0) ∧ (¬ Rv h1 a0 39 = 0) ∧ (¬ Rv h1 a0 41 = 0) ∧ (¬ Rv h1 a0 42 = 0) ∧ (¬ Rv h1 a0 43 = 0) ∧ (¬ Rv h1 a0 44 = 0) ∧ (¬ Rv h1 a0 45 = 0) ∧ (¬ Rv h1 a0 46 = 0) ∧ (¬ Rv h1 a0 47 = 0) ∧ (¬ Rv h1 a0 48 = 0) ∧ (¬ Rv h1 a0 49 = 0) ∧ (¬ Rv h1 a0 50 = 0) ∧ (¬ Rv h1 a0 51 = 0) ∧ (¬ Rv h1 a0 52 = 0) ∧ (¬ Rv h1 a0 53 = 0) ∧ (¬ Rv h1 a0 54 = 0) ∧ (¬ Rv h1 a0 55 = 0) ∧ (¬ Rv h1 a0 56 = 0) ∧ (¬ Rv h1 a0 58 = 0) ∧ (¬ Rv h1 a0 59 = 0) ∧ (¬ Rv h1 a0 60 = 0) ∧ (¬ Rv h1 a0 61 = 0) ∧ (¬ Rv h1 a0 63 = 0) ∧ (¬ Rv h1 a0 64 = 0) ∧ (¬ Rv h1 a0 65 = 0) ∧ (¬ Rv h1 a0 66 = 0) ∧ (¬ Rv h1 a0 67 = 0) ∧ (¬ Rv h1 a0 68 = 0) ∧ (¬ Rv h1 a0 70 = 0) ∧ (¬ Rv h1 a0 71 = 0) ∧ (¬ Rv h1 a0 72 = 0) ∧ (¬ Rv h1 a0 73 = 0) ∧ (¬ Rv h1 a0 74 = 0) ∧ (¬ Rv h1 a0 75 = 0) ∧ (¬ Rv h1 a0 76 = 0) ∧ (¬ Rv h1 a0 81 = 0) ∧ (¬ Rv h1 a0 82 = 0) ∧ (¬ Rv h1 a0 84 = 0) ∧ (¬ Rv h1 a0 85 = 0) ∧ (¬ Rv h1 a0 86 = 0) ∧ (MInv h1 a0))) (List.map toV [.inr (.inr a0)]).toArray s 68 46508 (Aof z0)) 340 [(0, .inr (.inr a0))] [] h825 16 6540 := by
    intro h825 O827 F828 p829
    refine g_aload_n C rfl 0 rfl dX12_init_340 ?_
    refine g_bipush C (by decide) dX12_init_341 ?_
    refine g_newa (atype := .int) (t := 0) (ty := .int) (N := 90) C 122100 rfl (iw (il 90) (by decide) (by decide)) (by decide) rfl kw_224 rfl (fun _ => rfl) (by decide) (by decide) (by decide) (by decide) dX12_init_343 (fun n831 z832 z833 h835 hh834 => ?_)
    have O836 := O827.pN z832 z833 hh834 (by decide) nn_122100
    have e837 : Tg h825 a0 = 1012 := (fxT F828 ta0)
    have e838 : Tg h835 a0 = 1012 := ((pNT hh834 (pN_n hh834 z833 e837)).trans e837)
    refine gp_RF C fk_LandSurveyModel_131 pk_LandSurveyModel_22 rfl e838 hn rfl (nf_a _ _) dX12_init_345 (fun h840 hh839 => ?_)
    have O841 := O836.pR e838 hh839 (okR_l rE_1012_22 (pN_T hh834) (pN_L hh834))
    refine g_aload_n C rfl 0 rfl dX12_init_348 ?_
    refine g_bipush C (by decide) dX12_init_349 ?_
    refine g_newa (atype := .int) (t := 0) (ty := .int) (N := 90) C 123100 rfl (iw (il 90) (by decide) (by decide)) (by decide) rfl kw_224 rfl (fun _ => rfl) (by decide) (by decide) (by decide) (by decide) dX12_init_351 (fun n842 z843 z844 h846 hh845 => ?_)
    have O847 := O841.pN z843 z844 hh845 (by decide) nn_123100
    have e848 : Tg h840 a0 = 1012 := ((pRT hh839).trans e838)
    have e849 : Tg h846 a0 = 1012 := ((pNT hh845 (pN_n hh845 z844 e848)).trans e848)
    refine gp_RF C fk_LandSurveyModel_134 pk_LandSurveyModel_23 rfl e849 hn rfl (nf_a _ _) dX12_init_353 (fun h851 hh850 => ?_)
    have O852 := O847.pR e849 hh850 (okR_l rE_1012_23 (pN_T hh845) (pN_L hh845))
    refine g_aload_n C rfl 0 rfl dX12_init_356 ?_
    refine g_bipush C (by decide) dX12_init_357 ?_
    refine g_newa (atype := .int) (t := 0) (ty := .int) (N := 9) C 124100 rfl (iw (il 9) (by decide) (by decide)) (by decide) rfl kw_224 rfl (fun _ => rfl) (by decide) (by decide) (by decide) (by decide) dX12_init_359 (fun n853 z854 z855 h857 hh856 => ?_)
    have O858 := O852.pN z854 z855 hh856 (by decide) nn_124100
    have e859 : Tg h851 a0 = 1012 := ((pRT hh850).trans e849)
    have e860 : Tg h857 a0 = 1012 := ((pNT hh856 (pN_n hh856 z855 e859)).trans e859)
    refine gp_RF C fk_LandSurveyModel_137 pk_LandSurveyModel_24 rfl e860 hn rfl (nf_a _ _) dX12_init_361 (fun h862 hh861 => ?_)
    have O863 := O858.pR e860 hh861 (okR_l rE_1012_24 (pN_T hh856) (pN_L hh856))
    refine g_aload_n C rfl 0 rfl dX12_init_364 ?_
    refine g_sipush C (by decide) dX12_init_365 ?_
    refine g_newa (atype := .int) (t := 0) (ty := .int) (N := 216) C 125100 rfl (iw (il 216) (by decide) (by decide)) (by decide) rfl kw_224 rfl (fun _ => rfl) (by decide) (by decide) (by decide) (by decide) dX12_init_368 (fun n864 z865 z866 h868 hh867 => ?_)
    have O869 := O863.pN z865 z866 hh867 (by decide) nn_125100
    have e870 : Tg h862 a0 = 1012 := ((pRT hh861).trans e860)
    have e871 : Tg h868 a0 = 1012 := ((pNT hh867 (pN_n hh867 z866 e870)).trans e870)
    refine gp_RF C fk_LandSurveyModel_140 pk_LandSurveyModel_25 rfl e871 hn rfl (nf_a _ _) dX12_init_370 (fun h873 hh872 => ?_)
    have O874 := O869.pR e871 hh872 (okR_l rE_1012_25 (pN_T hh867) (pN_L hh867))
    refine g_aload_n C rfl 0 rfl dX12_init_373 ?_
    refine g_sipush C (by decide) dX12_init_374 ?_
    refine g_newa (atype := .int) (t := 0) (ty := .int) (N := 216) C 126100 rfl (iw (il 216) (by decide) (by decide)) (by decide) rfl kw_224 rfl (fun _ => rfl) (by decide) (by decide) (by decide) (by decide) dX12_init_377 (fun n875 z876 z877 h879 hh878 => ?_)
    have O880 := O874.pN z876 z877 hh878 (by decide) nn_126100
    have e881 : Tg h873 a0 = 1012 := ((pRT hh872).trans e871)
    have e882 : Tg h879 a0 = 1012 := ((pNT hh878 (pN_n hh878 z877 e881)).trans e881)
    refine gp_RF C fk_LandSurveyModel_143 pk_LandSurveyModel_26 rfl e882 hn rfl (nf_a _ _) dX12_init_379 (fun h884 hh883 => ?_)
    have O885 := O880.pR e882 hh883 (okR_l rE_1012_26 (pN_T hh878) (pN_L hh878))
    refine g_aload_n C rfl 0 rfl dX12_init_382 ?_
    refine g_sipush C (by decide) dX12_init_383 ?_
    refine g_newa (atype := .int) (t := 0) (ty := .int) (N := 216) C 127100 rfl (iw (il 216) (by decide) (by decide)) (by decide) rfl kw_224 rfl (fun _ => rfl) (by decide) (by decide) (by decide) (by decide) dX12_init_386 (fun n886 z887 z888 h890 hh889 => ?_)
    have O891 := O885.pN z887 z888 hh889 (by decide) nn_127100
    have e892 : Tg h884 a0 = 1012 := ((pRT hh883).trans e882)
    have e893 : Tg h890 a0 = 1012 := ((pNT hh889 (pN_n hh889 z888 e892)).trans e892)
    refine gp_RF C fk_LandSurveyModel_146 pk_LandSurveyModel_27 rfl e893 hn rfl (nf_a _ _) dX12_init_388 (fun h895 hh894 => ?_)
    have O896 := O891.pR e893 hh894 (okR_l rE_1012_27 (pN_T hh889) (pN_L hh889))
    have e898 : Tg h895 n886 = 127100 := ((pRT hh894).trans (pN_T hh889))
    have p897 := LZR_new hh889 (nz_of O896 e898) (pN_n hh889 z888 e892) hh894
    refine g_aload_n C rfl 0 rfl dX12_init_391 ?_
    refine g_sipush C (by decide) dX12_init_392 ?_
    refine g_newa (atype := .int) (t := 0) (ty := .int) (N := 14400) C 129100 rfl (iw (il 14400) (by decide) (by decide)) (by decide) rfl kw_224 rfl (fun _ => rfl) (by decide) (by decide) (by decide) (by decide) dX12_init_395 (fun n899 z900 z901 h903 hh902 => ?_)
    have O904 := O896.pN z900 z901 hh902 (by decide) nn_129100
    have e905 : Tg h895 a0 = 1012 := ((pRT hh894).trans e893)
    have e906 : Tg h903 a0 = 1012 := ((pNT hh902 (pN_n hh902 z901 e905)).trans e905)
    refine gp_RF C fk_LandSurveyModel_149 pk_LandSurveyModel_29 rfl e906 hn rfl (nf_a _ _) dX12_init_397 (fun h908 hh907 => ?_)
    have O909 := O904.pR e906 hh907 (okR_l rE_1012_29 (pN_T hh902) (pN_L hh902))
    refine g_aload_n C rfl 0 rfl dX12_init_400 ?_
    refine g_sipush C (by decide) dX12_init_401 ?_
    refine g_newa (atype := .int) (t := 0) (ty := .int) (N := 14400) C 130100 rfl (iw (il 14400) (by decide) (by decide)) (by decide) rfl kw_224 rfl (fun _ => rfl) (by decide) (by decide) (by decide) (by decide) dX12_init_404 (fun n910 z911 z912 h914 hh913 => ?_)
    have O915 := O909.pN z911 z912 hh913 (by decide) nn_130100
    have e916 : Tg h908 a0 = 1012 := ((pRT hh907).trans e906)
    have e917 : Tg h914 a0 = 1012 := ((pNT hh913 (pN_n hh913 z912 e916)).trans e916)
    refine gp_RF C fk_LandSurveyModel_152 pk_LandSurveyModel_30 rfl e917 hn rfl (nf_a _ _) dX12_init_406 (fun h919 hh918 => ?_)
    have O920 := O915.pR e917 hh918 (okR_l rE_1012_30 (pN_T hh913) (pN_L hh913))
    refine GW.sub [0] rfl ?_
    have p921 := (NZ_fx ((Fx.rf (wr := [202430]) (h := h914)).pR e917 hh918 rfl) e917 (by decide) (NZ_fx ((Fx.rf (wr := [1000130100]) (h := h908)).pN z912 hh913 rfl) e916 (by decide) (NZ_fx ((Fx.rf (wr := [202429]) (h := h903)).pR e906 hh907 rfl) e906 (by decide) (NZ_fx ((Fx.rf (wr := [1000129100]) (h := h895)).pN z901 hh902 rfl) e905 (by decide) (NZ_fx ((Fx.rf (wr := [202427]) (h := h890)).pR e893 hh894 rfl) e893 (by decide) (NZ_fx ((Fx.rf (wr := [1000127100]) (h := h884)).pN z888 hh889 rfl) e892 (by decide) (NZ_fx ((Fx.rf (wr := [202426]) (h := h879)).pR e882 hh883 rfl) e882 (by decide) (NZ_fx ((Fx.rf (wr := [1000126100]) (h := h873)).pN z877 hh878 rfl) e881 (by decide) (NZ_fx ((Fx.rf (wr := [202425]) (h := h868)).pR e871 hh872 rfl) e871 (by decide) (NZ_fx ((Fx.rf (wr := [1000125100]) (h := h862)).pN z866 hh867 rfl) e870 (by decide) (NZ_fx ((Fx.rf (wr := [202424]) (h := h857)).pR e860 hh861 rfl) e860 (by decide) (NZ_fx ((Fx.rf (wr := [1000124100]) (h := h851)).pN z855 hh856 rfl) e859 (by decide) (NZ_fx ((Fx.rf (wr := [202423]) (h := h846)).pR e849 hh850 rfl) e849 (by decide) (NZ_fx ((Fx.rf (wr := [1000123100]) (h := h840)).pN z844 hh845 rfl) e848 (by decide) (NZ_fx ((Fx.rf (wr := [202422]) (h := h835)).pR e838 hh839 rfl) e838 (by decide) (NZ_fx ((Fx.rf (wr := [1000122100]) (h := h825)).pN z833 hh834 rfl) e837 (by decide) p829))))))))))))))))
    have e922 : Rv h919 a0 22 = n831 := ((pR_j hh918 (by decide)).trans ((pNR hh913 (pN_n hh913 z912 e916)).trans ((pR_j hh907 (by decide)).trans ((pNR hh902 (pN_n hh902 z901 e905)).trans ((pR_j hh894 (by decide)).trans ((pNR hh889 (pN_n hh889 z888 e892)).trans ((pR_j hh883 (by decide)).trans ((pNR hh878 (pN_n hh878 z877 e881)).trans ((pR_j hh872 (by decide)).trans ((pNR hh867 (pN_n hh867 z866 e870)).trans ((pR_j hh861 (by decide)).trans ((pNR hh856 (pN_n hh856 z855 e859)).trans ((pR_j hh850 (by decide)).trans ((pNR hh845 (pN_n hh845 z844 e848)).trans (pR_e hh839)))))))))))))))
    have e923 : Tg h840 n831 = 122100 := ((pRT hh839).trans (pN_T hh834))
    have e924 : Tg h851 n831 = 122100 := ((pRT hh850).trans ((pNT hh845 (pN_n hh845 z844 e923)).trans e923))
    have e925 : Tg h862 n831 = 122100 := ((pRT hh861).trans ((pNT hh856 (pN_n hh856 z855 e924)).trans e924))
    have e926 : Tg h873 n831 = 122100 := ((pRT hh872).trans ((pNT hh867 (pN_n hh867 z866 e925)).trans e925))
    have e927 : Tg h884 n831 = 122100 := ((pRT hh883).trans ((pNT hh878 (pN_n hh878 z877 e926)).trans e926))
    have e928 : Tg h895 n831 = 122100 := ((pRT hh894).trans ((pNT hh889 (pN_n hh889 z888 e927)).trans e927))
    have e929 : Tg h908 n831 = 122100 := ((pRT hh907).trans ((pNT hh902 (pN_n hh902 z901 e928)).trans e928))
    have e930 : Tg h919 n831 = 122100 := ((pRT hh918).trans ((pNT hh913 (pN_n hh913 z912 e929)).trans e929))
    have e931 : Rv h919 a0 23 = n842 := ((pR_j hh918 (by decide)).trans ((pNR hh913 (pN_n hh913 z912 e916)).trans ((pR_j hh907 (by decide)).trans ((pNR hh902 (pN_n hh902 z901 e905)).trans ((pR_j hh894 (by decide)).trans ((pNR hh889 (pN_n hh889 z888 e892)).trans ((pR_j hh883 (by decide)).trans ((pNR hh878 (pN_n hh878 z877 e881)).trans ((pR_j hh872 (by decide)).trans ((pNR hh867 (pN_n hh867 z866 e870)).trans ((pR_j hh861 (by decide)).trans ((pNR hh856 (pN_n hh856 z855 e859)).trans (pR_e hh850)))))))))))))
    have e932 : Tg h851 n842 = 123100 := ((pRT hh850).trans (pN_T hh845))
    have e933 : Tg h862 n842 = 123100 := ((pRT hh861).trans ((pNT hh856 (pN_n hh856 z855 e932)).trans e932))
    have e934 : Tg h873 n842 = 123100 := ((pRT hh872).trans ((pNT hh867 (pN_n hh867 z866 e933)).trans e933))
    have e935 : Tg h884 n842 = 123100 := ((pRT hh883).trans ((pNT hh878 (pN_n hh878 z877 e934)).trans e934))
    have e936 : Tg h895 n842 = 123100 := ((pRT hh894).trans ((pNT hh889 (pN_n hh889 z888 e935)).trans e935))
    have e937 : Tg h908 n842 = 123100 := ((pRT hh907).trans ((pNT hh902 (pN_n hh902 z901 e936)).trans e936))
    have e938 : Tg h919 n842 = 123100 := ((pRT hh918).trans ((pNT hh913 (pN_n hh913 z912 e937)).trans e937))
    have e939 : Rv h919 a0 24 = n853 := ((pR_j hh918 (by decide)).trans ((pNR hh913 (pN_n hh913 z912 e916)).trans ((pR_j hh907 (by decide)).trans ((pNR hh902 (pN_n hh902 z901 e905)).trans ((pR_j hh894 (by decide)).trans ((pNR hh889 (pN_n hh889 z888 e892)).trans ((pR_j hh883 (by decide)).trans ((pNR hh878 (pN_n hh878 z877 e881)).trans ((pR_j hh872 (by decide)).trans ((pNR hh867 (pN_n hh867 z866 e870)).trans (pR_e hh861)))))))))))
    have e940 : Tg h862 n853 = 124100 := ((pRT hh861).trans (pN_T hh856))
    have e941 : Tg h873 n853 = 124100 := ((pRT hh872).trans ((pNT hh867 (pN_n hh867 z866 e940)).trans e940))
    have e942 : Tg h884 n853 = 124100 := ((pRT hh883).trans ((pNT hh878 (pN_n hh878 z877 e941)).trans e941))
    have e943 : Tg h895 n853 = 124100 := ((pRT hh894).trans ((pNT hh889 (pN_n hh889 z888 e942)).trans e942))
    have e944 : Tg h908 n853 = 124100 := ((pRT hh907).trans ((pNT hh902 (pN_n hh902 z901 e943)).trans e943))
    have e945 : Tg h919 n853 = 124100 := ((pRT hh918).trans ((pNT hh913 (pN_n hh913 z912 e944)).trans e944))
    have e946 : Rv h919 a0 25 = n864 := ((pR_j hh918 (by decide)).trans ((pNR hh913 (pN_n hh913 z912 e916)).trans ((pR_j hh907 (by decide)).trans ((pNR hh902 (pN_n hh902 z901 e905)).trans ((pR_j hh894 (by decide)).trans ((pNR hh889 (pN_n hh889 z888 e892)).trans ((pR_j hh883 (by decide)).trans ((pNR hh878 (pN_n hh878 z877 e881)).trans (pR_e hh872)))))))))
    have e947 : Tg h873 n864 = 125100 := ((pRT hh872).trans (pN_T hh867))
    have e948 : Tg h884 n864 = 125100 := ((pRT hh883).trans ((pNT hh878 (pN_n hh878 z877 e947)).trans e947))
    have e949 : Tg h895 n864 = 125100 := ((pRT hh894).trans ((pNT hh889 (pN_n hh889 z888 e948)).trans e948))
    have e950 : Tg h908 n864 = 125100 := ((pRT hh907).trans ((pNT hh902 (pN_n hh902 z901 e949)).trans e949))
    have e951 : Tg h919 n864 = 125100 := ((pRT hh918).trans ((pNT hh913 (pN_n hh913 z912 e950)).trans e950))
    have e952 : Rv h919 a0 26 = n875 := ((pR_j hh918 (by decide)).trans ((pNR hh913 (pN_n hh913 z912 e916)).trans ((pR_j hh907 (by decide)).trans ((pNR hh902 (pN_n hh902 z901 e905)).trans ((pR_j hh894 (by decide)).trans ((pNR hh889 (pN_n hh889 z888 e892)).trans (pR_e hh883)))))))
    have e953 : Tg h884 n875 = 126100 := ((pRT hh883).trans (pN_T hh878))
    have e954 : Tg h895 n875 = 126100 := ((pRT hh894).trans ((pNT hh889 (pN_n hh889 z888 e953)).trans e953))
    have e955 : Tg h908 n875 = 126100 := ((pRT hh907).trans ((pNT hh902 (pN_n hh902 z901 e954)).trans e954))
    have e956 : Tg h919 n875 = 126100 := ((pRT hh918).trans ((pNT hh913 (pN_n hh913 z912 e955)).trans e955))
    have e957 : Rv h919 a0 27 = n886 := ((pR_j hh918 (by decide)).trans ((pNR hh913 (pN_n hh913 z912 e916)).trans ((pR_j hh907 (by decide)).trans ((pNR hh902 (pN_n hh902 z901 e905)).trans (pR_e hh894)))))
    have e958 : Tg h908 n886 = 127100 := ((pRT hh907).trans ((pNT hh902 (pN_n hh902 z901 e898)).trans e898))
    have e959 : Tg h919 n886 = 127100 := ((pRT hh918).trans ((pNT hh913 (pN_n hh913 z912 e958)).trans e958))
    have e960 : Rv h919 a0 29 = n899 := ((pR_j hh918 (by decide)).trans ((pNR hh913 (pN_n hh913 z912 e916)).trans (pR_e hh907)))
    have e961 : Tg h908 n899 = 129100 := ((pRT hh907).trans (pN_T hh902))
    have e962 : Tg h919 n899 = 129100 := ((pRT hh918).trans ((pNT hh913 (pN_n hh913 z912 e961)).trans e961))
    have e963 : Tg h919 n910 = 130100 := ((pRT hh918).trans (pN_T hh913))
    have p964 := (LZR_fx ((Fx.rf (wr := [202430]) (h := h914)).pR e917 hh918 rfl) e917 rfl (LZR_fx ((Fx.rf (wr := [1000130100]) (h := h908)).pN z912 hh913 rfl) e916 rfl (LZR_fx ((Fx.rf (wr := [202429]) (h := h903)).pR e906 hh907 rfl) e906 rfl (LZR_fx ((Fx.rf (wr := [1000129100]) (h := h895)).pN z901 hh902 rfl) e905 rfl p897))))
    exact J687 _ O920 ((((((((((((((((((Fx.rf (wr := [202401, 202404, 202405, 202406, 202409, 202411, 202412, 202413, 202414, 202415, 202416, 202417, 202418, 202419, 202420, 202421, 202422, 202423, 202424, 202425, 202426, 202427, 202429, 202430, 202431, 202432, 202434, 202435, 202436, 202437, 202438, 202439, 202441, 202442, 202443, 202444, 202445, 202446, 202447, 202448, 202449, 202450, 202451, 202452, 202453, 202454, 202455, 202456, 202458, 202459, 202460, 202461, 202463, 202464, 202465, 202466, 202467, 202468, 202470, 202471, 202472, 202473, 202474, 202475, 202476, 202481, 202482, 202484, 202485, 202486, 21820400, 27220000, 27420200, 27820000, 1000101100, 1000104100, 1000105100, 1000106102, 1000109102, 1000111100, 1000112100, 1000113102, 1000114100, 1000115100, 1000116101, 1000117101, 1000118101, 1000119100, 1000120101, 1000121100, 1000122100, 1000123100, 1000124100, 1000125100, 1000126100, 1000127100, 1000129100, 1000130100, 1000131100, 1000132100, 1000136100, 1000137101, 1000138101, 1000139100, 1000141100, 1000142100, 1000143100, 1000144100, 1000145100, 1000146100, 1000147100, 1000148100, 1000149100, 1000150100, 1000151100, 1000152101, 1000153101, 1000154100, 1000155100, 1000156100, 1000158101, 1000159100, 1000160100, 1000161100, 1000163100, 1000164100, 1000165100, 1000166100, 1000167100, 1000168100, 1000170101, 1000171100, 1000172102, 1000173101, 1000174101, 1000175100, 1000176100, 1000181100, 1000182101, 1000184100, 1000185100, 1000186100]) (h := h)).call F828 rfl).pN z833 hh834 rfl).pR e838 hh839 rfl).pN z844 hh845 rfl).pR e849 hh850 rfl).pN z855 hh856 rfl).pR e860 hh861 rfl).pN z866 hh867 rfl).pR e871 hh872 rfl).pN z877 hh878 rfl).pR e882 hh883 rfl).pN z888 hh889 rfl).pR e893 hh894 rfl).pN z901 hh902 rfl).pR e906 hh907 rfl).pN z912 hh913 rfl).pR e917 hh918 rfl) (NZ_cons (by rw [(pR_e hh918)]; exact nz_of O920 e963) (NZ_cons (by rw [e960]; exact nz_of O920 e962) (NZ_cons (by rw [e957]; exact nz_of O920 e959) (NZ_cons (by rw [e952]; exact nz_of O920 e956) (NZ_cons (by rw [e946]; exact nz_of O920 e951) (NZ_cons (by rw [e939]; exact nz_of O920 e945) (NZ_cons (by rw [e931]; exact nz_of O920 e938) (NZ_cons (by rw [e922]; exact nz_of O920 e930) p921)))))))) p964
  have J966 : ∀ (h965 : Hp), Okh h965 → Fx [202401, 202404, 202405, 202406, 202409, 202411, 202412, 202413, 202414, 202415, 202416, 202417, 202418, 202419, 202420, 202421, 202422, 202423, 202424, 202425, 202426, 202427, 202429, 202430, 202431, 202432, 202434, 202435, 202436, 202437, 202438, 202439, 202441, 202442, 202443, 202444, 202445, 202446, 202447, 202448, 202449, 202450, 202451, 202452, 202453, 202454, 202455, 202456, 202458, 202459, 202460, 202461, 202463, 202464, 202465, 202466, 202467, 202468, 202470, 202471, 202472, 202473, 202474, 202475, 202476, 202481, 202482, 202484, 202485, 202486, 21820400, 27220000, 27420200, 27820000, 1000101100, 1000104100, 1000105100, 1000106102, 1000109102, 1000111100, 1000112100, 1000113102, 1000114100, 1000115100, 1000116101, 1000117101, 1000118101, 1000119100, 1000120101, 1000121100, 1000122100, 1000123100, 1000124100, 1000125100, 1000126100, 1000127100, 1000129100, 1000130100, 1000131100, 1000132100, 1000136100, 1000137101, 1000138101, 1000139100, 1000141100, 1000142100, 1000143100, 1000144100, 1000145100, 1000146100, 1000147100, 1000148100, 1000149100, 1000150100, 1000151100, 1000152101, 1000153101, 1000154100, 1000155100, 1000156100, 1000158101, 1000159100, 1000160100, 1000161100, 1000163100, 1000164100, 1000165100, 1000166100, 1000167100, 1000168100, 1000170101, 1000171100, 1000172102, 1000173101, 1000174101, 1000175100, 1000176100, 1000181100, 1000182101, 1000184100, 1000185100, 1000186100] h h965 → NZ h965 a0 [13, 12, 11, 9, 6, 5, 4, 1] → GW p l e (rmm 1 24 68 46508) s m (List.map toV [.inr (.inr a0)]).toArray below meth c D cy z0 2 (MQ below (QV D cy z0 (fun h1 => Okh h1 ∧ Fx wr_k_X12_init h h1 ∧ (¬ Rv h1 a0 1 = 0) ∧ (¬ Rv h1 a0 4 = 0) ∧ (¬ Rv h1 a0 5 = 0) ∧ (¬ Rv h1 a0 6 = 0) ∧ (¬ Rv h1 a0 9 = 0) ∧ (¬ Rv h1 a0 11 = 0) ∧ (¬ Rv h1 a0 12 = 0) ∧ (¬ Rv h1 a0 13 = 0) ∧ (¬ Rv h1 a0 14 = 0) ∧ (¬ Rv h1 a0 15 = 0) ∧ (¬ Rv h1 a0 16 = 0) ∧ (¬ Rv h1 a0 17 = 0) ∧ (¬ Rv h1 a0 18 = 0) ∧ (¬ Rv h1 a0 19 = 0) ∧ (¬ Rv h1 a0 20 = 0) ∧ (¬ Rv h1 a0 21 = 0) ∧ (¬ Rv h1 a0 22 = 0) ∧ (¬ Rv h1 a0 23 = 0) ∧ (¬ Rv h1 a0 24 = 0) ∧ (¬ Rv h1 a0 25 = 0) ∧ (¬ Rv h1 a0 26 = 0) ∧ (¬ Rv h1 a0 27 = 0) ∧ (¬ Rv h1 a0 29 = 0) ∧ (¬ Rv h1 a0 30 = 0) ∧ (¬ Rv h1 a0 31 = 0) ∧ (¬ Rv h1 a0 32 = 0) ∧ (¬ Rv h1 a0 36 = 0) ∧ (¬ Rv h1 a0 37 = 0) ∧ (¬ Rv h1 a0 38 = 0) ∧ (¬ Rv h1 a0 39 = 0) ∧ (¬ Rv h1 a0 41 = 0) ∧ (¬ Rv h1 a0 42 = 0) ∧ (¬ Rv h1 a0 43 = 0) ∧ (¬ Rv h1 a0 44 = 0) ∧ (¬ Rv h1 a0 45 = 0) ∧ (¬ Rv h1 a0 46 = 0) ∧ (¬ Rv h1 a0 47 = 0) ∧ (¬ Rv h1 a0 48 = 0) ∧ (¬ Rv h1 a0 49 = 0) ∧ (¬ Rv h1 a0 50 = 0) ∧ (¬ Rv h1 a0 51 = 0) ∧ (¬ Rv h1 a0 52 = 0) ∧ (¬ Rv h1 a0 53 = 0) ∧ (¬ Rv h1 a0 54 = 0) ∧ (¬ Rv h1 a0 55 = 0) ∧ (¬ Rv h1 a0 56 = 0) ∧ (¬ Rv h1 a0 58 = 0) ∧ (¬ Rv h1 a0 59 = 0) ∧ (¬ Rv h1 a0 60 = 0) ∧ (¬ Rv h1 a0 61 = 0) ∧ (¬ Rv h1 a0 63 = 0) ∧ (¬ Rv h1 a0 64 = 0) ∧ (¬ Rv h1 a0 65 = 0) ∧ (¬ Rv h1 a0 66 = 0) ∧ (¬ Rv h1 a0 67 = 0) ∧ (¬ Rv h1 a0 68 = 0) ∧ (¬ Rv h1 a0 70 = 0) ∧ (¬ Rv h1 a0 71 = 0) ∧ (¬ Rv h1 a0 72 = 0) ∧ (¬ Rv h1 a0 73 = 0) ∧ (¬ Rv h1 a0 74 = 0) ∧ (¬ Rv h1 a0 75 = 0) ∧ (¬ Rv h1 a0 76 = 0) ∧ (¬ Rv h1 a0 81 = 0) ∧ (¬ Rv h1 a0 82 = 0) ∧ (¬ Rv h1 a0 84 = 0) ∧ (¬ Rv h1 a0 85 = 0) ∧ (¬ Rv h1 a0 86 = 0) ∧ (MInv h1 a0))) (List.map toV [.inr (.inr a0)]).toArray s 68 46508 (Aof z0)) 276 [(0, .inr (.inr a0))] [] h965 8 6144 := by
    intro h965 O967 F968 p969
    refine g_aload_n C rfl 0 rfl dX12_init_276 ?_
    refine g_bipush C (by decide) dX12_init_277 ?_
    refine g_newa (atype := .int) (t := 0) (ty := .int) (N := 90) C 114100 rfl (iw (il 90) (by decide) (by decide)) (by decide) rfl kw_224 rfl (fun _ => rfl) (by decide) (by decide) (by decide) (by decide) dX12_init_279 (fun n971 z972 z973 h975 hh974 => ?_)
    have O976 := O967.pN z972 z973 hh974 (by decide) nn_114100
    have e977 : Tg h965 a0 = 1012 := (fxT F968 ta0)
    have e978 : Tg h975 a0 = 1012 := ((pNT hh974 (pN_n hh974 z973 e977)).trans e977)
    refine gp_RF C fk_LandSurveyModel_106 pk_LandSurveyModel_14 rfl e978 hn rfl (nf_a _ _) dX12_init_281 (fun h980 hh979 => ?_)
    have O981 := O976.pR e978 hh979 (okR_l rE_1012_14 (pN_T hh974) (pN_L hh974))
    refine g_aload_n C rfl 0 rfl dX12_init_284 ?_
    refine g_bipush C (by decide) dX12_init_285 ?_
    refine g_newa (atype := .int) (t := 0) (ty := .int) (N := 90) C 115100 rfl (iw (il 90) (by decide) (by decide)) (by decide) rfl kw_224 rfl (fun _ => rfl) (by decide) (by decide) (by decide) (by decide) dX12_init_287 (fun n982 z983 z984 h986 hh985 => ?_)
    have O987 := O981.pN z983 z984 hh985 (by decide) nn_115100
    have e988 : Tg h980 a0 = 1012 := ((pRT hh979).trans e978)
    have e989 : Tg h986 a0 = 1012 := ((pNT hh985 (pN_n hh985 z984 e988)).trans e988)
    refine gp_RF C fk_LandSurveyModel_109 pk_LandSurveyModel_15 rfl e989 hn rfl (nf_a _ _) dX12_init_289 (fun h991 hh990 => ?_)
    have O992 := O987.pR e989 hh990 (okR_l rE_1012_15 (pN_T hh985) (pN_L hh985))
    refine g_aload_n C rfl 0 rfl dX12_init_292 ?_
    refine g_bipush C (by decide) dX12_init_293 ?_
    refine g_newa (atype := .boolean) (t := 1) (ty := .boolean) (N := 90) C 116101 rfl (iw (il 90) (by decide) (by decide)) (by decide) rfl kw_225 rfl (fun _ => rfl) (by decide) (by decide) (by decide) (by decide) dX12_init_295 (fun n993 z994 z995 h997 hh996 => ?_)
    have O998 := O992.pN z994 z995 hh996 (by decide) nn_116101
    have e999 : Tg h991 a0 = 1012 := ((pRT hh990).trans e989)
    have e1000 : Tg h997 a0 = 1012 := ((pNT hh996 (pN_n hh996 z995 e999)).trans e999)
    refine gp_RF C fk_LandSurveyModel_112 pk_LandSurveyModel_16 rfl e1000 hn rfl (nf_a _ _) dX12_init_297 (fun h1002 hh1001 => ?_)
    have O1003 := O998.pR e1000 hh1001 (okR_l rE_1012_16 (pN_T hh996) (pN_L hh996))
    refine g_aload_n C rfl 0 rfl dX12_init_300 ?_
    refine g_bipush C (by decide) dX12_init_301 ?_
    refine g_newa (atype := .boolean) (t := 1) (ty := .boolean) (N := 90) C 117101 rfl (iw (il 90) (by decide) (by decide)) (by decide) rfl kw_225 rfl (fun _ => rfl) (by decide) (by decide) (by decide) (by decide) dX12_init_303 (fun n1004 z1005 z1006 h1008 hh1007 => ?_)
    have O1009 := O1003.pN z1005 z1006 hh1007 (by decide) nn_117101
    have e1010 : Tg h1002 a0 = 1012 := ((pRT hh1001).trans e1000)
    have e1011 : Tg h1008 a0 = 1012 := ((pNT hh1007 (pN_n hh1007 z1006 e1010)).trans e1010)
    refine gp_RF C fk_LandSurveyModel_116 pk_LandSurveyModel_17 rfl e1011 hn rfl (nf_a _ _) dX12_init_305 (fun h1013 hh1012 => ?_)
    have O1014 := O1009.pR e1011 hh1012 (okR_l rE_1012_17 (pN_T hh1007) (pN_L hh1007))
    refine g_aload_n C rfl 0 rfl dX12_init_308 ?_
    refine g_bipush C (by decide) dX12_init_309 ?_
    refine g_newa (atype := .boolean) (t := 1) (ty := .boolean) (N := 9) C 118101 rfl (iw (il 9) (by decide) (by decide)) (by decide) rfl kw_225 rfl (fun _ => rfl) (by decide) (by decide) (by decide) (by decide) dX12_init_311 (fun n1015 z1016 z1017 h1019 hh1018 => ?_)
    have O1020 := O1014.pN z1016 z1017 hh1018 (by decide) nn_118101
    have e1021 : Tg h1013 a0 = 1012 := ((pRT hh1012).trans e1011)
    have e1022 : Tg h1019 a0 = 1012 := ((pNT hh1018 (pN_n hh1018 z1017 e1021)).trans e1021)
    refine gp_RF C fk_LandSurveyModel_119 pk_LandSurveyModel_18 rfl e1022 hn rfl (nf_a _ _) dX12_init_313 (fun h1024 hh1023 => ?_)
    have O1025 := O1020.pR e1022 hh1023 (okR_l rE_1012_18 (pN_T hh1018) (pN_L hh1018))
    refine g_aload_n C rfl 0 rfl dX12_init_316 ?_
    refine g_bipush C (by decide) dX12_init_317 ?_
    refine g_newa (atype := .int) (t := 0) (ty := .int) (N := 9) C 119100 rfl (iw (il 9) (by decide) (by decide)) (by decide) rfl kw_224 rfl (fun _ => rfl) (by decide) (by decide) (by decide) (by decide) dX12_init_319 (fun n1026 z1027 z1028 h1030 hh1029 => ?_)
    have O1031 := O1025.pN z1027 z1028 hh1029 (by decide) nn_119100
    have e1032 : Tg h1024 a0 = 1012 := ((pRT hh1023).trans e1022)
    have e1033 : Tg h1030 a0 = 1012 := ((pNT hh1029 (pN_n hh1029 z1028 e1032)).trans e1032)
    refine gp_RF C fk_LandSurveyModel_122 pk_LandSurveyModel_19 rfl e1033 hn rfl (nf_a _ _) dX12_init_321 (fun h1035 hh1034 => ?_)
    have O1036 := O1031.pR e1033 hh1034 (okR_l rE_1012_19 (pN_T hh1029) (pN_L hh1029))
    refine g_aload_n C rfl 0 rfl dX12_init_324 ?_
    refine g_bipush C (by decide) dX12_init_325 ?_
    refine g_newa (atype := .boolean) (t := 1) (ty := .boolean) (N := 9) C 120101 rfl (iw (il 9) (by decide) (by decide)) (by decide) rfl kw_225 rfl (fun _ => rfl) (by decide) (by decide) (by decide) (by decide) dX12_init_327 (fun n1037 z1038 z1039 h1041 hh1040 => ?_)
    have O1042 := O1036.pN z1038 z1039 hh1040 (by decide) nn_120101
    have e1043 : Tg h1035 a0 = 1012 := ((pRT hh1034).trans e1033)
    have e1044 : Tg h1041 a0 = 1012 := ((pNT hh1040 (pN_n hh1040 z1039 e1043)).trans e1043)
    refine gp_RF C fk_LandSurveyModel_125 pk_LandSurveyModel_20 rfl e1044 hn rfl (nf_a _ _) dX12_init_329 (fun h1046 hh1045 => ?_)
    have O1047 := O1042.pR e1044 hh1045 (okR_l rE_1012_20 (pN_T hh1040) (pN_L hh1040))
    refine g_aload_n C rfl 0 rfl dX12_init_332 ?_
    refine g_bipush C (by decide) dX12_init_333 ?_
    refine g_newa (atype := .int) (t := 0) (ty := .int) (N := 9) C 121100 rfl (iw (il 9) (by decide) (by decide)) (by decide) rfl kw_224 rfl (fun _ => rfl) (by decide) (by decide) (by decide) (by decide) dX12_init_335 (fun n1048 z1049 z1050 h1052 hh1051 => ?_)
    have O1053 := O1047.pN z1049 z1050 hh1051 (by decide) nn_121100
    have e1054 : Tg h1046 a0 = 1012 := ((pRT hh1045).trans e1044)
    have e1055 : Tg h1052 a0 = 1012 := ((pNT hh1051 (pN_n hh1051 z1050 e1054)).trans e1054)
    refine gp_RF C fk_LandSurveyModel_128 pk_LandSurveyModel_21 rfl e1055 hn rfl (nf_a _ _) dX12_init_337 (fun h1057 hh1056 => ?_)
    have O1058 := O1053.pR e1055 hh1056 (okR_l rE_1012_21 (pN_T hh1051) (pN_L hh1051))
    refine GW.sub [0] rfl ?_
    have p1059 := (NZ_fx ((Fx.rf (wr := [202421]) (h := h1052)).pR e1055 hh1056 rfl) e1055 (by decide) (NZ_fx ((Fx.rf (wr := [1000121100]) (h := h1046)).pN z1050 hh1051 rfl) e1054 (by decide) (NZ_fx ((Fx.rf (wr := [202420]) (h := h1041)).pR e1044 hh1045 rfl) e1044 (by decide) (NZ_fx ((Fx.rf (wr := [1000120101]) (h := h1035)).pN z1039 hh1040 rfl) e1043 (by decide) (NZ_fx ((Fx.rf (wr := [202419]) (h := h1030)).pR e1033 hh1034 rfl) e1033 (by decide) (NZ_fx ((Fx.rf (wr := [1000119100]) (h := h1024)).pN z1028 hh1029 rfl) e1032 (by decide) (NZ_fx ((Fx.rf (wr := [202418]) (h := h1019)).pR e1022 hh1023 rfl) e1022 (by decide) (NZ_fx ((Fx.rf (wr := [1000118101]) (h := h1013)).pN z1017 hh1018 rfl) e1021 (by decide) (NZ_fx ((Fx.rf (wr := [202417]) (h := h1008)).pR e1011 hh1012 rfl) e1011 (by decide) (NZ_fx ((Fx.rf (wr := [1000117101]) (h := h1002)).pN z1006 hh1007 rfl) e1010 (by decide) (NZ_fx ((Fx.rf (wr := [202416]) (h := h997)).pR e1000 hh1001 rfl) e1000 (by decide) (NZ_fx ((Fx.rf (wr := [1000116101]) (h := h991)).pN z995 hh996 rfl) e999 (by decide) (NZ_fx ((Fx.rf (wr := [202415]) (h := h986)).pR e989 hh990 rfl) e989 (by decide) (NZ_fx ((Fx.rf (wr := [1000115100]) (h := h980)).pN z984 hh985 rfl) e988 (by decide) (NZ_fx ((Fx.rf (wr := [202414]) (h := h975)).pR e978 hh979 rfl) e978 (by decide) (NZ_fx ((Fx.rf (wr := [1000114100]) (h := h965)).pN z973 hh974 rfl) e977 (by decide) p969))))))))))))))))
    have e1060 : Rv h1057 a0 14 = n971 := ((pR_j hh1056 (by decide)).trans ((pNR hh1051 (pN_n hh1051 z1050 e1054)).trans ((pR_j hh1045 (by decide)).trans ((pNR hh1040 (pN_n hh1040 z1039 e1043)).trans ((pR_j hh1034 (by decide)).trans ((pNR hh1029 (pN_n hh1029 z1028 e1032)).trans ((pR_j hh1023 (by decide)).trans ((pNR hh1018 (pN_n hh1018 z1017 e1021)).trans ((pR_j hh1012 (by decide)).trans ((pNR hh1007 (pN_n hh1007 z1006 e1010)).trans ((pR_j hh1001 (by decide)).trans ((pNR hh996 (pN_n hh996 z995 e999)).trans ((pR_j hh990 (by decide)).trans ((pNR hh985 (pN_n hh985 z984 e988)).trans (pR_e hh979)))))))))))))))
    have e1061 : Tg h980 n971 = 114100 := ((pRT hh979).trans (pN_T hh974))
    have e1062 : Tg h991 n971 = 114100 := ((pRT hh990).trans ((pNT hh985 (pN_n hh985 z984 e1061)).trans e1061))
    have e1063 : Tg h1002 n971 = 114100 := ((pRT hh1001).trans ((pNT hh996 (pN_n hh996 z995 e1062)).trans e1062))
    have e1064 : Tg h1013 n971 = 114100 := ((pRT hh1012).trans ((pNT hh1007 (pN_n hh1007 z1006 e1063)).trans e1063))
    have e1065 : Tg h1024 n971 = 114100 := ((pRT hh1023).trans ((pNT hh1018 (pN_n hh1018 z1017 e1064)).trans e1064))
    have e1066 : Tg h1035 n971 = 114100 := ((pRT hh1034).trans ((pNT hh1029 (pN_n hh1029 z1028 e1065)).trans e1065))
    have e1067 : Tg h1046 n971 = 114100 := ((pRT hh1045).trans ((pNT hh1040 (pN_n hh1040 z1039 e1066)).trans e1066))
    have e1068 : Tg h1057 n971 = 114100 := ((pRT hh1056).trans ((pNT hh1051 (pN_n hh1051 z1050 e1067)).trans e1067))
    have e1069 : Rv h1057 a0 15 = n982 := ((pR_j hh1056 (by decide)).trans ((pNR hh1051 (pN_n hh1051 z1050 e1054)).trans ((pR_j hh1045 (by decide)).trans ((pNR hh1040 (pN_n hh1040 z1039 e1043)).trans ((pR_j hh1034 (by decide)).trans ((pNR hh1029 (pN_n hh1029 z1028 e1032)).trans ((pR_j hh1023 (by decide)).trans ((pNR hh1018 (pN_n hh1018 z1017 e1021)).trans ((pR_j hh1012 (by decide)).trans ((pNR hh1007 (pN_n hh1007 z1006 e1010)).trans ((pR_j hh1001 (by decide)).trans ((pNR hh996 (pN_n hh996 z995 e999)).trans (pR_e hh990)))))))))))))
    have e1070 : Tg h991 n982 = 115100 := ((pRT hh990).trans (pN_T hh985))
    have e1071 : Tg h1002 n982 = 115100 := ((pRT hh1001).trans ((pNT hh996 (pN_n hh996 z995 e1070)).trans e1070))
    have e1072 : Tg h1013 n982 = 115100 := ((pRT hh1012).trans ((pNT hh1007 (pN_n hh1007 z1006 e1071)).trans e1071))
    have e1073 : Tg h1024 n982 = 115100 := ((pRT hh1023).trans ((pNT hh1018 (pN_n hh1018 z1017 e1072)).trans e1072))
    have e1074 : Tg h1035 n982 = 115100 := ((pRT hh1034).trans ((pNT hh1029 (pN_n hh1029 z1028 e1073)).trans e1073))
    have e1075 : Tg h1046 n982 = 115100 := ((pRT hh1045).trans ((pNT hh1040 (pN_n hh1040 z1039 e1074)).trans e1074))
    have e1076 : Tg h1057 n982 = 115100 := ((pRT hh1056).trans ((pNT hh1051 (pN_n hh1051 z1050 e1075)).trans e1075))
    have e1077 : Rv h1057 a0 16 = n993 := ((pR_j hh1056 (by decide)).trans ((pNR hh1051 (pN_n hh1051 z1050 e1054)).trans ((pR_j hh1045 (by decide)).trans ((pNR hh1040 (pN_n hh1040 z1039 e1043)).trans ((pR_j hh1034 (by decide)).trans ((pNR hh1029 (pN_n hh1029 z1028 e1032)).trans ((pR_j hh1023 (by decide)).trans ((pNR hh1018 (pN_n hh1018 z1017 e1021)).trans ((pR_j hh1012 (by decide)).trans ((pNR hh1007 (pN_n hh1007 z1006 e1010)).trans (pR_e hh1001)))))))))))
    have e1078 : Tg h1002 n993 = 116101 := ((pRT hh1001).trans (pN_T hh996))
    have e1079 : Tg h1013 n993 = 116101 := ((pRT hh1012).trans ((pNT hh1007 (pN_n hh1007 z1006 e1078)).trans e1078))
    have e1080 : Tg h1024 n993 = 116101 := ((pRT hh1023).trans ((pNT hh1018 (pN_n hh1018 z1017 e1079)).trans e1079))
    have e1081 : Tg h1035 n993 = 116101 := ((pRT hh1034).trans ((pNT hh1029 (pN_n hh1029 z1028 e1080)).trans e1080))
    have e1082 : Tg h1046 n993 = 116101 := ((pRT hh1045).trans ((pNT hh1040 (pN_n hh1040 z1039 e1081)).trans e1081))
    have e1083 : Tg h1057 n993 = 116101 := ((pRT hh1056).trans ((pNT hh1051 (pN_n hh1051 z1050 e1082)).trans e1082))
    have e1084 : Rv h1057 a0 17 = n1004 := ((pR_j hh1056 (by decide)).trans ((pNR hh1051 (pN_n hh1051 z1050 e1054)).trans ((pR_j hh1045 (by decide)).trans ((pNR hh1040 (pN_n hh1040 z1039 e1043)).trans ((pR_j hh1034 (by decide)).trans ((pNR hh1029 (pN_n hh1029 z1028 e1032)).trans ((pR_j hh1023 (by decide)).trans ((pNR hh1018 (pN_n hh1018 z1017 e1021)).trans (pR_e hh1012)))))))))
    have e1085 : Tg h1013 n1004 = 117101 := ((pRT hh1012).trans (pN_T hh1007))
    have e1086 : Tg h1024 n1004 = 117101 := ((pRT hh1023).trans ((pNT hh1018 (pN_n hh1018 z1017 e1085)).trans e1085))
    have e1087 : Tg h1035 n1004 = 117101 := ((pRT hh1034).trans ((pNT hh1029 (pN_n hh1029 z1028 e1086)).trans e1086))
    have e1088 : Tg h1046 n1004 = 117101 := ((pRT hh1045).trans ((pNT hh1040 (pN_n hh1040 z1039 e1087)).trans e1087))
    have e1089 : Tg h1057 n1004 = 117101 := ((pRT hh1056).trans ((pNT hh1051 (pN_n hh1051 z1050 e1088)).trans e1088))
    have e1090 : Rv h1057 a0 18 = n1015 := ((pR_j hh1056 (by decide)).trans ((pNR hh1051 (pN_n hh1051 z1050 e1054)).trans ((pR_j hh1045 (by decide)).trans ((pNR hh1040 (pN_n hh1040 z1039 e1043)).trans ((pR_j hh1034 (by decide)).trans ((pNR hh1029 (pN_n hh1029 z1028 e1032)).trans (pR_e hh1023)))))))
    have e1091 : Tg h1024 n1015 = 118101 := ((pRT hh1023).trans (pN_T hh1018))
    have e1092 : Tg h1035 n1015 = 118101 := ((pRT hh1034).trans ((pNT hh1029 (pN_n hh1029 z1028 e1091)).trans e1091))
    have e1093 : Tg h1046 n1015 = 118101 := ((pRT hh1045).trans ((pNT hh1040 (pN_n hh1040 z1039 e1092)).trans e1092))
    have e1094 : Tg h1057 n1015 = 118101 := ((pRT hh1056).trans ((pNT hh1051 (pN_n hh1051 z1050 e1093)).trans e1093))
    have e1095 : Rv h1057 a0 19 = n1026 := ((pR_j hh1056 (by decide)).trans ((pNR hh1051 (pN_n hh1051 z1050 e1054)).trans ((pR_j hh1045 (by decide)).trans ((pNR hh1040 (pN_n hh1040 z1039 e1043)).trans (pR_e hh1034)))))
    have e1096 : Tg h1035 n1026 = 119100 := ((pRT hh1034).trans (pN_T hh1029))
    have e1097 : Tg h1046 n1026 = 119100 := ((pRT hh1045).trans ((pNT hh1040 (pN_n hh1040 z1039 e1096)).trans e1096))
    have e1098 : Tg h1057 n1026 = 119100 := ((pRT hh1056).trans ((pNT hh1051 (pN_n hh1051 z1050 e1097)).trans e1097))
    have e1099 : Rv h1057 a0 20 = n1037 := ((pR_j hh1056 (by decide)).trans ((pNR hh1051 (pN_n hh1051 z1050 e1054)).trans (pR_e hh1045)))
    have e1100 : Tg h1046 n1037 = 120101 := ((pRT hh1045).trans (pN_T hh1040))
    have e1101 : Tg h1057 n1037 = 120101 := ((pRT hh1056).trans ((pNT hh1051 (pN_n hh1051 z1050 e1100)).trans e1100))
    have e1102 : Tg h1057 n1048 = 121100 := ((pRT hh1056).trans (pN_T hh1051))
    exact J826 _ O1058 ((((((((((((((((((Fx.rf (wr := [202401, 202404, 202405, 202406, 202409, 202411, 202412, 202413, 202414, 202415, 202416, 202417, 202418, 202419, 202420, 202421, 202422, 202423, 202424, 202425, 202426, 202427, 202429, 202430, 202431, 202432, 202434, 202435, 202436, 202437, 202438, 202439, 202441, 202442, 202443, 202444, 202445, 202446, 202447, 202448, 202449, 202450, 202451, 202452, 202453, 202454, 202455, 202456, 202458, 202459, 202460, 202461, 202463, 202464, 202465, 202466, 202467, 202468, 202470, 202471, 202472, 202473, 202474, 202475, 202476, 202481, 202482, 202484, 202485, 202486, 21820400, 27220000, 27420200, 27820000, 1000101100, 1000104100, 1000105100, 1000106102, 1000109102, 1000111100, 1000112100, 1000113102, 1000114100, 1000115100, 1000116101, 1000117101, 1000118101, 1000119100, 1000120101, 1000121100, 1000122100, 1000123100, 1000124100, 1000125100, 1000126100, 1000127100, 1000129100, 1000130100, 1000131100, 1000132100, 1000136100, 1000137101, 1000138101, 1000139100, 1000141100, 1000142100, 1000143100, 1000144100, 1000145100, 1000146100, 1000147100, 1000148100, 1000149100, 1000150100, 1000151100, 1000152101, 1000153101, 1000154100, 1000155100, 1000156100, 1000158101, 1000159100, 1000160100, 1000161100, 1000163100, 1000164100, 1000165100, 1000166100, 1000167100, 1000168100, 1000170101, 1000171100, 1000172102, 1000173101, 1000174101, 1000175100, 1000176100, 1000181100, 1000182101, 1000184100, 1000185100, 1000186100]) (h := h)).call F968 rfl).pN z973 hh974 rfl).pR e978 hh979 rfl).pN z984 hh985 rfl).pR e989 hh990 rfl).pN z995 hh996 rfl).pR e1000 hh1001 rfl).pN z1006 hh1007 rfl).pR e1011 hh1012 rfl).pN z1017 hh1018 rfl).pR e1022 hh1023 rfl).pN z1028 hh1029 rfl).pR e1033 hh1034 rfl).pN z1039 hh1040 rfl).pR e1044 hh1045 rfl).pN z1050 hh1051 rfl).pR e1055 hh1056 rfl) (NZ_cons (by rw [(pR_e hh1056)]; exact nz_of O1058 e1102) (NZ_cons (by rw [e1099]; exact nz_of O1058 e1101) (NZ_cons (by rw [e1095]; exact nz_of O1058 e1098) (NZ_cons (by rw [e1090]; exact nz_of O1058 e1094) (NZ_cons (by rw [e1084]; exact nz_of O1058 e1089) (NZ_cons (by rw [e1077]; exact nz_of O1058 e1083) (NZ_cons (by rw [e1069]; exact nz_of O1058 e1076) (NZ_cons (by rw [e1060]; exact nz_of O1058 e1068) p1059))))))))
  refine g_aload_n C rfl 0 rfl dX12_init_0 ?_
  refine g_oinit C (tg_nz ta0) kw_1475 kw_178 (by decide) (Nat.le_of_ble_eq_true rfl) dX12_init_1 ?_
  refine g_aload_n C rfl 0 rfl dX12_init_4 ?_
  refine g_sipush C (by decide) dX12_init_5 ?_
  refine g_newa (atype := .int) (t := 0) (ty := .int) (N := 1500) C 101100 rfl (iw (il 1500) (by decide) (by decide)) (by decide) rfl kw_224 rfl (fun _ => rfl) (by decide) (by decide) (by decide) (by decide) dX12_init_8 (fun n1103 z1104 z1105 h1107 hh1106 => ?_)
  have O1108 := O.pN z1104 z1105 hh1106 (by decide) nn_101100
  have e1109 : Tg h1107 a0 = 1012 := ((pNT hh1106 (pN_n hh1106 z1105 ta0)).trans ta0)
  refine gp_RF C fk_LandSurveyModel_14 pk_LandSurveyModel_1 rfl e1109 hn rfl (nf_a _ _) dX12_init_10 (fun h1111 hh1110 => ?_)
  have O1112 := O1108.pR e1109 hh1110 (okR_l rE_1012_1 (pN_T hh1106) (pN_L hh1106))
  refine g_aload_n C rfl 0 rfl dX12_init_13 ?_
  refine g_sipush C (by decide) dX12_init_14 ?_
  refine g_newa (atype := .int) (t := 0) (ty := .int) (N := 1502) C 104100 rfl (iw (il 1502) (by decide) (by decide)) (by decide) rfl kw_224 rfl (fun _ => rfl) (by decide) (by decide) (by decide) (by decide) dX12_init_17 (fun n1113 z1114 z1115 h1117 hh1116 => ?_)
  have O1118 := O1112.pN z1114 z1115 hh1116 (by decide) nn_104100
  have e1119 : Tg h1111 a0 = 1012 := ((pRT hh1110).trans e1109)
  have e1120 : Tg h1117 a0 = 1012 := ((pNT hh1116 (pN_n hh1116 z1115 e1119)).trans e1119)
  refine gp_RF C fk_LandSurveyModel_24 pk_LandSurveyModel_4 rfl e1120 hn rfl (nf_a _ _) dX12_init_19 (fun h1122 hh1121 => ?_)
  have O1123 := O1118.pR e1120 hh1121 (okR_l rE_1012_4 (pN_T hh1116) (pN_L hh1116))
  refine g_aload_n C rfl 0 rfl dX12_init_22 ?_
  refine g_sipush C (by decide) dX12_init_23 ?_
  refine g_newa (atype := .int) (t := 0) (ty := .int) (N := 1502) C 105100 rfl (iw (il 1502) (by decide) (by decide)) (by decide) rfl kw_224 rfl (fun _ => rfl) (by decide) (by decide) (by decide) (by decide) dX12_init_26 (fun n1124 z1125 z1126 h1128 hh1127 => ?_)
  have O1129 := O1123.pN z1125 z1126 hh1127 (by decide) nn_105100
  have e1130 : Tg h1122 a0 = 1012 := ((pRT hh1121).trans e1120)
  have e1131 : Tg h1128 a0 = 1012 := ((pNT hh1127 (pN_n hh1127 z1126 e1130)).trans e1130)
  refine gp_RF C fk_LandSurveyModel_27 pk_LandSurveyModel_5 rfl e1131 hn rfl (nf_a _ _) dX12_init_28 (fun h1133 hh1132 => ?_)
  have O1134 := O1129.pR e1131 hh1132 (okR_l rE_1012_5 (pN_T hh1127) (pN_L hh1127))
  refine g_aload_n C rfl 0 rfl dX12_init_31 ?_
  refine g_sipush C (by decide) dX12_init_32 ?_
  refine g_newa (atype := .long) (t := 2) (ty := .long) (N := 1502) C 106102 rfl (iw (il 1502) (by decide) (by decide)) (by decide) rfl kw_376 rfl (fun _ => rfl) (by decide) (by decide) (by decide) (by decide) dX12_init_35 (fun n1135 z1136 z1137 h1139 hh1138 => ?_)
  have O1140 := O1134.pN z1136 z1137 hh1138 (by decide) nn_106102
  have e1141 : Tg h1133 a0 = 1012 := ((pRT hh1132).trans e1131)
  have e1142 : Tg h1139 a0 = 1012 := ((pNT hh1138 (pN_n hh1138 z1137 e1141)).trans e1141)
  refine gp_RF C fk_LandSurveyModel_30 pk_LandSurveyModel_6 rfl e1142 hn rfl (nf_a _ _) dX12_init_37 (fun h1144 hh1143 => ?_)
  have O1145 := O1140.pR e1142 hh1143 (okR_l rE_1012_6 (pN_T hh1138) (pN_L hh1138))
  refine g_aload_n C rfl 0 rfl dX12_init_40 ?_
  refine g_bipush C (by decide) dX12_init_41 ?_
  refine g_newa (atype := .long) (t := 2) (ty := .long) (N := 30) C 109102 rfl (iw (il 30) (by decide) (by decide)) (by decide) rfl kw_376 rfl (fun _ => rfl) (by decide) (by decide) (by decide) (by decide) dX12_init_43 (fun n1146 z1147 z1148 h1150 hh1149 => ?_)
  have O1151 := O1145.pN z1147 z1148 hh1149 (by decide) nn_109102
  refine g_dup C rfl dX12_init_45 ?_
  refine g_iconst C dX12_init_46 ?_
  refine g_ldc2 (z := 932411) C kw_1476 (by decide) dX12_init_47 ?_
  refine g_last C (pN_T hh1149) rfl (pN_L hh1149) (ix (il 0) (by decide) (by decide)) (iw (il 932411) (by decide) (by decide)) dX12_init_50 (fun h1153 hh1152 => ?_)
  have O1154 := O1151.pJ hh1152 (iw (il 932411) (by decide) (by decide))
  refine g_dup C rfl dX12_init_51 ?_
  refine g_iconst C dX12_init_52 ?_
  refine g_ldc2 (z := 710997) C kw_1477 (by decide) dX12_init_53 ?_
  have e1155 : Tg h1153 n1146 = 109102 := ((pJT hh1152).trans (pN_T hh1149))
  have e1156 : Ln h1153 n1146 = 30 := ((pJL hh1152).trans (pN_L hh1149))
  refine g_last C e1155 rfl e1156 (ix (il 1) (by decide) (by decide)) (iw (il 710997) (by decide) (by decide)) dX12_init_56 (fun h1158 hh1157 => ?_)
  have O1159 := O1154.pJ hh1157 (iw (il 710997) (by decide) (by decide))
  refine g_dup C rfl dX12_init_57 ?_
  refine g_iconst C dX12_init_58 ?_
  refine g_ldc2 (z := 913652) C kw_1478 (by decide) dX12_init_59 ?_
  have e1160 : Tg h1158 n1146 = 109102 := ((pJT hh1157).trans e1155)
  have e1161 : Ln h1158 n1146 = 30 := ((pJL hh1157).trans e1156)
  refine g_last C e1160 rfl e1161 (ix (il 2) (by decide) (by decide)) (iw (il 913652) (by decide) (by decide)) dX12_init_62 (fun h1163 hh1162 => ?_)
  have O1164 := O1159.pJ hh1162 (iw (il 913652) (by decide) (by decide))
  refine g_dup C rfl dX12_init_63 ?_
  refine g_iconst C dX12_init_64 ?_
  refine g_ldc2 (z := 227314) C kw_1479 (by decide) dX12_init_65 ?_
  have e1165 : Tg h1163 n1146 = 109102 := ((pJT hh1162).trans e1160)
  have e1166 : Ln h1163 n1146 = 30 := ((pJL hh1162).trans e1161)
  refine g_last C e1165 rfl e1166 (ix (il 3) (by decide) (by decide)) (iw (il 227314) (by decide) (by decide)) dX12_init_68 (fun h1168 hh1167 => ?_)
  have O1169 := O1164.pJ hh1167 (iw (il 227314) (by decide) (by decide))
  refine g_dup C rfl dX12_init_69 ?_
  refine g_iconst C dX12_init_70 ?_
  refine g_ldc2 (z := 36629165) C kw_1480 (by decide) dX12_init_71 ?_
  have e1170 : Tg h1168 n1146 = 109102 := ((pJT hh1167).trans e1165)
  have e1171 : Ln h1168 n1146 = 30 := ((pJL hh1167).trans e1166)
  refine g_last C e1170 rfl e1171 (ix (il 4) (by decide) (by decide)) (iw (il 36629165) (by decide) (by decide)) dX12_init_74 (fun h1173 hh1172 => ?_)
  have O1174 := O1169.pJ hh1172 (iw (il 36629165) (by decide) (by decide))
  refine g_dup C rfl dX12_init_75 ?_
  refine g_iconst C dX12_init_76 ?_
  refine g_ldc2 (z := 8420961) C kw_1481 (by decide) dX12_init_77 ?_
  have e1175 : Tg h1173 n1146 = 109102 := ((pJT hh1172).trans e1170)
  have e1176 : Ln h1173 n1146 = 30 := ((pJL hh1172).trans e1171)
  refine g_last C e1175 rfl e1176 (ix (il 5) (by decide) (by decide)) (iw (il 8420961) (by decide) (by decide)) dX12_init_80 (fun h1178 hh1177 => ?_)
  have O1179 := O1174.pJ hh1177 (iw (il 8420961) (by decide) (by decide))
  refine g_dup C rfl dX12_init_81 ?_
  refine g_bipush C (by decide) dX12_init_82 ?_
  refine g_ldc2 (z := 15769678) C kw_1482 (by decide) dX12_init_84 ?_
  have e1180 : Tg h1178 n1146 = 109102 := ((pJT hh1177).trans e1175)
  have e1181 : Ln h1178 n1146 = 30 := ((pJL hh1177).trans e1176)
  refine g_last C e1180 rfl e1181 (ix (il 6) (by decide) (by decide)) (iw (il 15769678) (by decide) (by decide)) dX12_init_87 (fun h1183 hh1182 => ?_)
  have O1184 := O1179.pJ hh1182 (iw (il 15769678) (by decide) (by decide))
  refine g_dup C rfl dX12_init_88 ?_
  refine g_bipush C (by decide) dX12_init_89 ?_
  refine g_ldc2 (z := 37948996) C kw_1483 (by decide) dX12_init_91 ?_
  have e1185 : Tg h1183 n1146 = 109102 := ((pJT hh1182).trans e1180)
  have e1186 : Ln h1183 n1146 = 30 := ((pJL hh1182).trans e1181)
  refine g_last C e1185 rfl e1186 (ix (il 7) (by decide) (by decide)) (iw (il 37948996) (by decide) (by decide)) dX12_init_94 (fun h1188 hh1187 => ?_)
  have O1189 := O1184.pJ hh1187 (iw (il 37948996) (by decide) (by decide))
  refine g_dup C rfl dX12_init_95 ?_
  refine g_bipush C (by decide) dX12_init_96 ?_
  refine g_ldc2 (z := 1258222236) C kw_1484 (by decide) dX12_init_98 ?_
  have e1190 : Tg h1188 n1146 = 109102 := ((pJT hh1187).trans e1185)
  have e1191 : Ln h1188 n1146 = 30 := ((pJL hh1187).trans e1186)
  refine g_last C e1190 rfl e1191 (ix (il 8) (by decide) (by decide)) (iw (il 1258222236) (by decide) (by decide)) dX12_init_101 (fun h1193 hh1192 => ?_)
  have O1194 := O1189.pJ hh1192 (iw (il 1258222236) (by decide) (by decide))
  refine g_dup C rfl dX12_init_102 ?_
  refine g_bipush C (by decide) dX12_init_103 ?_
  refine g_ldc2 (z := 755) C kw_1485 (by decide) dX12_init_105 ?_
  have e1195 : Tg h1193 n1146 = 109102 := ((pJT hh1192).trans e1190)
  have e1196 : Ln h1193 n1146 = 30 := ((pJL hh1192).trans e1191)
  refine g_last C e1195 rfl e1196 (ix (il 9) (by decide) (by decide)) (iw (il 755) (by decide) (by decide)) dX12_init_108 (fun h1198 hh1197 => ?_)
  have O1199 := O1194.pJ hh1197 (iw (il 755) (by decide) (by decide))
  refine g_dup C rfl dX12_init_109 ?_
  refine g_bipush C (by decide) dX12_init_110 ?_
  refine g_ldc2 (z := 329128) C kw_1486 (by decide) dX12_init_112 ?_
  have e1200 : Tg h1198 n1146 = 109102 := ((pJT hh1197).trans e1195)
  have e1201 : Ln h1198 n1146 = 30 := ((pJL hh1197).trans e1196)
  refine g_last C e1200 rfl e1201 (ix (il 10) (by decide) (by decide)) (iw (il 329128) (by decide) (by decide)) dX12_init_115 (fun h1203 hh1202 => ?_)
  have O1204 := O1199.pJ hh1202 (iw (il 329128) (by decide) (by decide))
  refine g_dup C rfl dX12_init_116 ?_
  refine g_bipush C (by decide) dX12_init_117 ?_
  refine g_ldc2 (z := 1176170) C kw_1487 (by decide) dX12_init_119 ?_
  have e1205 : Tg h1203 n1146 = 109102 := ((pJT hh1202).trans e1200)
  have e1206 : Ln h1203 n1146 = 30 := ((pJL hh1202).trans e1201)
  refine g_last C e1205 rfl e1206 (ix (il 11) (by decide) (by decide)) (iw (il 1176170) (by decide) (by decide)) dX12_init_122 (fun h1208 hh1207 => ?_)
  have O1209 := O1204.pJ hh1207 (iw (il 1176170) (by decide) (by decide))
  refine g_dup C rfl dX12_init_123 ?_
  refine g_bipush C (by decide) dX12_init_124 ?_
  refine g_ldc2 (z := 333123) C kw_1488 (by decide) dX12_init_126 ?_
  have e1210 : Tg h1208 n1146 = 109102 := ((pJT hh1207).trans e1205)
  have e1211 : Ln h1208 n1146 = 30 := ((pJL hh1207).trans e1206)
  refine g_last C e1210 rfl e1211 (ix (il 12) (by decide) (by decide)) (iw (il 333123) (by decide) (by decide)) dX12_init_129 (fun h1213 hh1212 => ?_)
  have O1214 := O1209.pJ hh1212 (iw (il 333123) (by decide) (by decide))
  refine g_dup C rfl dX12_init_130 ?_
  refine g_bipush C (by decide) dX12_init_131 ?_
  refine g_ldc2 (z := 173197865) C kw_1489 (by decide) dX12_init_133 ?_
  have e1215 : Tg h1213 n1146 = 109102 := ((pJT hh1212).trans e1210)
  have e1216 : Ln h1213 n1146 = 30 := ((pJL hh1212).trans e1211)
  refine g_last C e1215 rfl e1216 (ix (il 13) (by decide) (by decide)) (iw (il 173197865) (by decide) (by decide)) dX12_init_136 (fun h1218 hh1217 => ?_)
  have O1219 := O1214.pJ hh1217 (iw (il 173197865) (by decide) (by decide))
  refine g_dup C rfl dX12_init_137 ?_
  refine g_bipush C (by decide) dX12_init_138 ?_
  refine g_ldc2 (z := 306528872) C kw_1490 (by decide) dX12_init_140 ?_
  have e1220 : Tg h1218 n1146 = 109102 := ((pJT hh1217).trans e1215)
  have e1221 : Ln h1218 n1146 = 30 := ((pJL hh1217).trans e1216)
  refine g_last C e1220 rfl e1221 (ix (il 14) (by decide) (by decide)) (iw (il 306528872) (by decide) (by decide)) dX12_init_143 (fun h1223 hh1222 => ?_)
  have O1224 := O1219.pJ hh1222 (iw (il 306528872) (by decide) (by decide))
  refine g_dup C rfl dX12_init_144 ?_
  refine g_bipush C (by decide) dX12_init_145 ?_
  refine g_ldc2 (z := 1891) C kw_1491 (by decide) dX12_init_147 ?_
  have e1225 : Tg h1223 n1146 = 109102 := ((pJT hh1222).trans e1220)
  have e1226 : Ln h1223 n1146 = 30 := ((pJL hh1222).trans e1221)
  refine g_last C e1225 rfl e1226 (ix (il 15) (by decide) (by decide)) (iw (il 1891) (by decide) (by decide)) dX12_init_150 (fun h1228 hh1227 => ?_)
  have O1229 := O1224.pJ hh1227 (iw (il 1891) (by decide) (by decide))
  refine g_dup C rfl dX12_init_151 ?_
  refine g_bipush C (by decide) dX12_init_152 ?_
  refine g_ldc2 (z := 573) C kw_1492 (by decide) dX12_init_154 ?_
  have e1230 : Tg h1228 n1146 = 109102 := ((pJT hh1227).trans e1225)
  have e1231 : Ln h1228 n1146 = 30 := ((pJL hh1227).trans e1226)
  refine g_last C e1230 rfl e1231 (ix (il 16) (by decide) (by decide)) (iw (il 573) (by decide) (by decide)) dX12_init_157 (fun h1233 hh1232 => ?_)
  have O1234 := O1229.pJ hh1232 (iw (il 573) (by decide) (by decide))
  refine g_dup C rfl dX12_init_158 ?_
  refine g_bipush C (by decide) dX12_init_159 ?_
  refine g_ldc2 (z := 19741) C kw_1493 (by decide) dX12_init_161 ?_
  have e1235 : Tg h1233 n1146 = 109102 := ((pJT hh1232).trans e1230)
  have e1236 : Ln h1233 n1146 = 30 := ((pJL hh1232).trans e1231)
  refine g_last C e1235 rfl e1236 (ix (il 17) (by decide) (by decide)) (iw (il 19741) (by decide) (by decide)) dX12_init_164 (fun h1238 hh1237 => ?_)
  have O1239 := O1234.pJ hh1237 (iw (il 19741) (by decide) (by decide))
  refine g_dup C rfl dX12_init_165 ?_
  refine g_bipush C (by decide) dX12_init_166 ?_
  refine g_ldc2 (z := 236773452) C kw_1494 (by decide) dX12_init_168 ?_
  have e1240 : Tg h1238 n1146 = 109102 := ((pJT hh1237).trans e1235)
  have e1241 : Ln h1238 n1146 = 30 := ((pJL hh1237).trans e1236)
  refine g_last C e1240 rfl e1241 (ix (il 18) (by decide) (by decide)) (iw (il 236773452) (by decide) (by decide)) dX12_init_171 (fun h1243 hh1242 => ?_)
  have O1244 := O1239.pJ hh1242 (iw (il 236773452) (by decide) (by decide))
  refine g_dup C rfl dX12_init_172 ?_
  refine g_bipush C (by decide) dX12_init_173 ?_
  refine g_ldc2 (z := 14032597) C kw_1495 (by decide) dX12_init_175 ?_
  have e1245 : Tg h1243 n1146 = 109102 := ((pJT hh1242).trans e1240)
  have e1246 : Ln h1243 n1146 = 30 := ((pJL hh1242).trans e1241)
  refine g_last C e1245 rfl e1246 (ix (il 19) (by decide) (by decide)) (iw (il 14032597) (by decide) (by decide)) dX12_init_178 (fun h1248 hh1247 => ?_)
  have O1249 := O1244.pJ hh1247 (iw (il 14032597) (by decide) (by decide))
  refine g_dup C rfl dX12_init_179 ?_
  refine g_bipush C (by decide) dX12_init_180 ?_
  refine g_ldc2 (z := 407263) C kw_1496 (by decide) dX12_init_182 ?_
  have e1250 : Tg h1248 n1146 = 109102 := ((pJT hh1247).trans e1245)
  have e1251 : Ln h1248 n1146 = 30 := ((pJL hh1247).trans e1246)
  refine g_last C e1250 rfl e1251 (ix (il 20) (by decide) (by decide)) (iw (il 407263) (by decide) (by decide)) dX12_init_185 (fun h1253 hh1252 => ?_)
  have O1254 := O1249.pJ hh1252 (iw (il 407263) (by decide) (by decide))
  refine g_dup C rfl dX12_init_186 ?_
  refine g_bipush C (by decide) dX12_init_187 ?_
  refine g_ldc2 (z := 317227) C kw_1497 (by decide) dX12_init_189 ?_
  have e1255 : Tg h1253 n1146 = 109102 := ((pJT hh1252).trans e1250)
  have e1256 : Ln h1253 n1146 = 30 := ((pJL hh1252).trans e1251)
  refine g_last C e1255 rfl e1256 (ix (il 21) (by decide) (by decide)) (iw (il 317227) (by decide) (by decide)) dX12_init_192 (fun h1258 hh1257 => ?_)
  have O1259 := O1254.pJ hh1257 (iw (il 317227) (by decide) (by decide))
  refine g_dup C rfl dX12_init_193 ?_
  refine g_bipush C (by decide) dX12_init_194 ?_
  refine g_ldc2 (z := 570026) C kw_1498 (by decide) dX12_init_196 ?_
  have e1260 : Tg h1258 n1146 = 109102 := ((pJT hh1257).trans e1255)
  have e1261 : Ln h1258 n1146 = 30 := ((pJL hh1257).trans e1256)
  refine g_last C e1260 rfl e1261 (ix (il 22) (by decide) (by decide)) (iw (il 570026) (by decide) (by decide)) dX12_init_199 (fun h1263 hh1262 => ?_)
  have O1264 := O1259.pJ hh1262 (iw (il 570026) (by decide) (by decide))
  refine g_dup C rfl dX12_init_200 ?_
  refine g_bipush C (by decide) dX12_init_201 ?_
  refine g_ldc2 (z := 407115) C kw_1499 (by decide) dX12_init_203 ?_
  have e1265 : Tg h1263 n1146 = 109102 := ((pJT hh1262).trans e1260)
  have e1266 : Ln h1263 n1146 = 30 := ((pJL hh1262).trans e1261)
  refine g_last C e1265 rfl e1266 (ix (il 23) (by decide) (by decide)) (iw (il 407115) (by decide) (by decide)) dX12_init_206 (fun h1268 hh1267 => ?_)
  have O1269 := O1264.pJ hh1267 (iw (il 407115) (by decide) (by decide))
  refine g_dup C rfl dX12_init_207 ?_
  refine g_bipush C (by decide) dX12_init_208 ?_
  refine g_ldc2 (z := 7772561) C kw_1500 (by decide) dX12_init_210 ?_
  have e1270 : Tg h1268 n1146 = 109102 := ((pJT hh1267).trans e1265)
  have e1271 : Ln h1268 n1146 = 30 := ((pJL hh1267).trans e1266)
  refine g_last C e1270 rfl e1271 (ix (il 24) (by decide) (by decide)) (iw (il 7772561) (by decide) (by decide)) dX12_init_213 (fun h1273 hh1272 => ?_)
  have O1274 := O1269.pJ hh1272 (iw (il 7772561) (by decide) (by decide))
  refine g_dup C rfl dX12_init_214 ?_
  refine g_bipush C (by decide) dX12_init_215 ?_
  refine g_ldc2 (z := 564588237) C kw_1501 (by decide) dX12_init_217 ?_
  have e1275 : Tg h1273 n1146 = 109102 := ((pJT hh1272).trans e1270)
  have e1276 : Ln h1273 n1146 = 30 := ((pJL hh1272).trans e1271)
  refine g_last C e1275 rfl e1276 (ix (il 25) (by decide) (by decide)) (iw (il 564588237) (by decide) (by decide)) dX12_init_220 (fun h1278 hh1277 => ?_)
  have O1279 := O1274.pJ hh1277 (iw (il 564588237) (by decide) (by decide))
  refine g_dup C rfl dX12_init_221 ?_
  refine g_bipush C (by decide) dX12_init_222 ?_
  refine g_ldc2 (z := 2253564) C kw_1502 (by decide) dX12_init_224 ?_
  have e1280 : Tg h1278 n1146 = 109102 := ((pJT hh1277).trans e1275)
  have e1281 : Ln h1278 n1146 = 30 := ((pJL hh1277).trans e1276)
  refine g_last C e1280 rfl e1281 (ix (il 26) (by decide) (by decide)) (iw (il 2253564) (by decide) (by decide)) dX12_init_227 (fun h1283 hh1282 => ?_)
  have O1284 := O1279.pJ hh1282 (iw (il 2253564) (by decide) (by decide))
  refine g_dup C rfl dX12_init_228 ?_
  refine g_bipush C (by decide) dX12_init_229 ?_
  refine g_ldc2 (z := 2686664) C kw_1503 (by decide) dX12_init_231 ?_
  have e1285 : Tg h1283 n1146 = 109102 := ((pJT hh1282).trans e1280)
  have e1286 : Ln h1283 n1146 = 30 := ((pJL hh1282).trans e1281)
  refine g_last C e1285 rfl e1286 (ix (il 27) (by decide) (by decide)) (iw (il 2686664) (by decide) (by decide)) dX12_init_234 (fun h1288 hh1287 => ?_)
  have O1289 := O1284.pJ hh1287 (iw (il 2686664) (by decide) (by decide))
  refine g_dup C rfl dX12_init_235 ?_
  refine g_bipush C (by decide) dX12_init_236 ?_
  refine g_ldc2 (z := 964262) C kw_1504 (by decide) dX12_init_238 ?_
  have e1290 : Tg h1288 n1146 = 109102 := ((pJT hh1287).trans e1285)
  have e1291 : Ln h1288 n1146 = 30 := ((pJL hh1287).trans e1286)
  refine g_last C e1290 rfl e1291 (ix (il 28) (by decide) (by decide)) (iw (il 964262) (by decide) (by decide)) dX12_init_241 (fun h1293 hh1292 => ?_)
  have O1294 := O1289.pJ hh1292 (iw (il 964262) (by decide) (by decide))
  refine g_dup C rfl dX12_init_242 ?_
  refine g_bipush C (by decide) dX12_init_243 ?_
  refine g_ldc2 (z := 564640) C kw_1505 (by decide) dX12_init_245 ?_
  have e1295 : Tg h1293 n1146 = 109102 := ((pJT hh1292).trans e1290)
  have e1296 : Ln h1293 n1146 = 30 := ((pJL hh1292).trans e1291)
  refine g_last C e1295 rfl e1296 (ix (il 29) (by decide) (by decide)) (iw (il 564640) (by decide) (by decide)) dX12_init_248 (fun h1298 hh1297 => ?_)
  have O1299 := O1294.pJ hh1297 (iw (il 564640) (by decide) (by decide))
  have e1300 : Tg h1144 a0 = 1012 := ((pRT hh1143).trans e1142)
  have e1301 : Tg h1298 a0 = 1012 := ((pJT hh1297).trans ((pJT hh1292).trans ((pJT hh1287).trans ((pJT hh1282).trans ((pJT hh1277).trans ((pJT hh1272).trans ((pJT hh1267).trans ((pJT hh1262).trans ((pJT hh1257).trans ((pJT hh1252).trans ((pJT hh1247).trans ((pJT hh1242).trans ((pJT hh1237).trans ((pJT hh1232).trans ((pJT hh1227).trans ((pJT hh1222).trans ((pJT hh1217).trans ((pJT hh1212).trans ((pJT hh1207).trans ((pJT hh1202).trans ((pJT hh1197).trans ((pJT hh1192).trans ((pJT hh1187).trans ((pJT hh1182).trans ((pJT hh1177).trans ((pJT hh1172).trans ((pJT hh1167).trans ((pJT hh1162).trans ((pJT hh1157).trans ((pJT hh1152).trans ((pNT hh1149 (pN_n hh1149 z1148 e1300)).trans e1300)))))))))))))))))))))))))))))))
  refine gp_RF C fk_LandSurveyModel_94 pk_LandSurveyModel_9 rfl e1301 hn rfl (nf_a _ _) dX12_init_249 (fun h1303 hh1302 => ?_)
  have e1305 : Tg h1298 n1146 = 109102 := ((pJT hh1297).trans e1295)
  have e1306 : Ln h1298 n1146 = 30 := ((pJL hh1297).trans e1296)
  have O1304 := O1299.pR e1301 hh1302 (okR_l rE_1012_9 e1305 e1306)
  refine g_aload_n C rfl 0 rfl dX12_init_252 ?_
  refine g_bipush C (by decide) dX12_init_253 ?_
  refine g_newa (atype := .int) (t := 0) (ty := .int) (N := 9) C 111100 rfl (iw (il 9) (by decide) (by decide)) (by decide) rfl kw_224 rfl (fun _ => rfl) (by decide) (by decide) (by decide) (by decide) dX12_init_255 (fun n1307 z1308 z1309 h1311 hh1310 => ?_)
  have O1312 := O1304.pN z1308 z1309 hh1310 (by decide) nn_111100
  have e1313 : Tg h1303 a0 = 1012 := ((pRT hh1302).trans e1301)
  have e1314 : Tg h1311 a0 = 1012 := ((pNT hh1310 (pN_n hh1310 z1309 e1313)).trans e1313)
  refine gp_RF C fk_LandSurveyModel_97 pk_LandSurveyModel_11 rfl e1314 hn rfl (nf_a _ _) dX12_init_257 (fun h1316 hh1315 => ?_)
  have O1317 := O1312.pR e1314 hh1315 (okR_l rE_1012_11 (pN_T hh1310) (pN_L hh1310))
  refine g_aload_n C rfl 0 rfl dX12_init_260 ?_
  refine g_bipush C (by decide) dX12_init_261 ?_
  refine g_newa (atype := .int) (t := 0) (ty := .int) (N := 9) C 112100 rfl (iw (il 9) (by decide) (by decide)) (by decide) rfl kw_224 rfl (fun _ => rfl) (by decide) (by decide) (by decide) (by decide) dX12_init_263 (fun n1318 z1319 z1320 h1322 hh1321 => ?_)
  have O1323 := O1317.pN z1319 z1320 hh1321 (by decide) nn_112100
  have e1324 : Tg h1316 a0 = 1012 := ((pRT hh1315).trans e1314)
  have e1325 : Tg h1322 a0 = 1012 := ((pNT hh1321 (pN_n hh1321 z1320 e1324)).trans e1324)
  refine gp_RF C fk_LandSurveyModel_100 pk_LandSurveyModel_12 rfl e1325 hn rfl (nf_a _ _) dX12_init_265 (fun h1327 hh1326 => ?_)
  have O1328 := O1323.pR e1325 hh1326 (okR_l rE_1012_12 (pN_T hh1321) (pN_L hh1321))
  refine g_aload_n C rfl 0 rfl dX12_init_268 ?_
  refine g_bipush C (by decide) dX12_init_269 ?_
  refine g_newa (atype := .long) (t := 2) (ty := .long) (N := 90) C 113102 rfl (iw (il 90) (by decide) (by decide)) (by decide) rfl kw_376 rfl (fun _ => rfl) (by decide) (by decide) (by decide) (by decide) dX12_init_271 (fun n1329 z1330 z1331 h1333 hh1332 => ?_)
  have O1334 := O1328.pN z1330 z1331 hh1332 (by decide) nn_113102
  have e1335 : Tg h1327 a0 = 1012 := ((pRT hh1326).trans e1325)
  have e1336 : Tg h1333 a0 = 1012 := ((pNT hh1332 (pN_n hh1332 z1331 e1335)).trans e1335)
  refine gp_RF C fk_LandSurveyModel_103 pk_LandSurveyModel_13 rfl e1336 hn rfl (nf_a _ _) dX12_init_273 (fun h1338 hh1337 => ?_)
  have O1339 := O1334.pR e1336 hh1337 (okR_l rE_1012_13 (pN_T hh1332) (pN_L hh1332))
  refine GW.sub [0] rfl ?_
  have e1340 : Rv h1338 a0 1 = n1103 := ((pR_j hh1337 (by decide)).trans ((pNR hh1332 (pN_n hh1332 z1331 e1335)).trans ((pR_j hh1326 (by decide)).trans ((pNR hh1321 (pN_n hh1321 z1320 e1324)).trans ((pR_j hh1315 (by decide)).trans ((pNR hh1310 (pN_n hh1310 z1309 e1313)).trans ((pR_j hh1302 (by decide)).trans ((pJR hh1297).trans ((pJR hh1292).trans ((pJR hh1287).trans ((pJR hh1282).trans ((pJR hh1277).trans ((pJR hh1272).trans ((pJR hh1267).trans ((pJR hh1262).trans ((pJR hh1257).trans ((pJR hh1252).trans ((pJR hh1247).trans ((pJR hh1242).trans ((pJR hh1237).trans ((pJR hh1232).trans ((pJR hh1227).trans ((pJR hh1222).trans ((pJR hh1217).trans ((pJR hh1212).trans ((pJR hh1207).trans ((pJR hh1202).trans ((pJR hh1197).trans ((pJR hh1192).trans ((pJR hh1187).trans ((pJR hh1182).trans ((pJR hh1177).trans ((pJR hh1172).trans ((pJR hh1167).trans ((pJR hh1162).trans ((pJR hh1157).trans ((pJR hh1152).trans ((pNR hh1149 (pN_n hh1149 z1148 e1300)).trans ((pR_j hh1143 (by decide)).trans ((pNR hh1138 (pN_n hh1138 z1137 e1141)).trans ((pR_j hh1132 (by decide)).trans ((pNR hh1127 (pN_n hh1127 z1126 e1130)).trans ((pR_j hh1121 (by decide)).trans ((pNR hh1116 (pN_n hh1116 z1115 e1119)).trans (pR_e hh1110)))))))))))))))))))))))))))))))))))))))))))))
  have e1341 : Tg h1111 n1103 = 101100 := ((pRT hh1110).trans (pN_T hh1106))
  have e1342 : Tg h1122 n1103 = 101100 := ((pRT hh1121).trans ((pNT hh1116 (pN_n hh1116 z1115 e1341)).trans e1341))
  have e1343 : Tg h1133 n1103 = 101100 := ((pRT hh1132).trans ((pNT hh1127 (pN_n hh1127 z1126 e1342)).trans e1342))
  have e1344 : Tg h1144 n1103 = 101100 := ((pRT hh1143).trans ((pNT hh1138 (pN_n hh1138 z1137 e1343)).trans e1343))
  have e1345 : Tg h1303 n1103 = 101100 := ((pRT hh1302).trans ((pJT hh1297).trans ((pJT hh1292).trans ((pJT hh1287).trans ((pJT hh1282).trans ((pJT hh1277).trans ((pJT hh1272).trans ((pJT hh1267).trans ((pJT hh1262).trans ((pJT hh1257).trans ((pJT hh1252).trans ((pJT hh1247).trans ((pJT hh1242).trans ((pJT hh1237).trans ((pJT hh1232).trans ((pJT hh1227).trans ((pJT hh1222).trans ((pJT hh1217).trans ((pJT hh1212).trans ((pJT hh1207).trans ((pJT hh1202).trans ((pJT hh1197).trans ((pJT hh1192).trans ((pJT hh1187).trans ((pJT hh1182).trans ((pJT hh1177).trans ((pJT hh1172).trans ((pJT hh1167).trans ((pJT hh1162).trans ((pJT hh1157).trans ((pJT hh1152).trans ((pNT hh1149 (pN_n hh1149 z1148 e1344)).trans e1344))))))))))))))))))))))))))))))))
  have e1346 : Tg h1316 n1103 = 101100 := ((pRT hh1315).trans ((pNT hh1310 (pN_n hh1310 z1309 e1345)).trans e1345))
  have e1347 : Tg h1327 n1103 = 101100 := ((pRT hh1326).trans ((pNT hh1321 (pN_n hh1321 z1320 e1346)).trans e1346))
  have e1348 : Tg h1338 n1103 = 101100 := ((pRT hh1337).trans ((pNT hh1332 (pN_n hh1332 z1331 e1347)).trans e1347))
  have e1349 : Rv h1338 a0 4 = n1113 := ((pR_j hh1337 (by decide)).trans ((pNR hh1332 (pN_n hh1332 z1331 e1335)).trans ((pR_j hh1326 (by decide)).trans ((pNR hh1321 (pN_n hh1321 z1320 e1324)).trans ((pR_j hh1315 (by decide)).trans ((pNR hh1310 (pN_n hh1310 z1309 e1313)).trans ((pR_j hh1302 (by decide)).trans ((pJR hh1297).trans ((pJR hh1292).trans ((pJR hh1287).trans ((pJR hh1282).trans ((pJR hh1277).trans ((pJR hh1272).trans ((pJR hh1267).trans ((pJR hh1262).trans ((pJR hh1257).trans ((pJR hh1252).trans ((pJR hh1247).trans ((pJR hh1242).trans ((pJR hh1237).trans ((pJR hh1232).trans ((pJR hh1227).trans ((pJR hh1222).trans ((pJR hh1217).trans ((pJR hh1212).trans ((pJR hh1207).trans ((pJR hh1202).trans ((pJR hh1197).trans ((pJR hh1192).trans ((pJR hh1187).trans ((pJR hh1182).trans ((pJR hh1177).trans ((pJR hh1172).trans ((pJR hh1167).trans ((pJR hh1162).trans ((pJR hh1157).trans ((pJR hh1152).trans ((pNR hh1149 (pN_n hh1149 z1148 e1300)).trans ((pR_j hh1143 (by decide)).trans ((pNR hh1138 (pN_n hh1138 z1137 e1141)).trans ((pR_j hh1132 (by decide)).trans ((pNR hh1127 (pN_n hh1127 z1126 e1130)).trans (pR_e hh1121)))))))))))))))))))))))))))))))))))))))))))
  have e1350 : Tg h1122 n1113 = 104100 := ((pRT hh1121).trans (pN_T hh1116))
  have e1351 : Tg h1133 n1113 = 104100 := ((pRT hh1132).trans ((pNT hh1127 (pN_n hh1127 z1126 e1350)).trans e1350))
  have e1352 : Tg h1144 n1113 = 104100 := ((pRT hh1143).trans ((pNT hh1138 (pN_n hh1138 z1137 e1351)).trans e1351))
  have e1353 : Tg h1303 n1113 = 104100 := ((pRT hh1302).trans ((pJT hh1297).trans ((pJT hh1292).trans ((pJT hh1287).trans ((pJT hh1282).trans ((pJT hh1277).trans ((pJT hh1272).trans ((pJT hh1267).trans ((pJT hh1262).trans ((pJT hh1257).trans ((pJT hh1252).trans ((pJT hh1247).trans ((pJT hh1242).trans ((pJT hh1237).trans ((pJT hh1232).trans ((pJT hh1227).trans ((pJT hh1222).trans ((pJT hh1217).trans ((pJT hh1212).trans ((pJT hh1207).trans ((pJT hh1202).trans ((pJT hh1197).trans ((pJT hh1192).trans ((pJT hh1187).trans ((pJT hh1182).trans ((pJT hh1177).trans ((pJT hh1172).trans ((pJT hh1167).trans ((pJT hh1162).trans ((pJT hh1157).trans ((pJT hh1152).trans ((pNT hh1149 (pN_n hh1149 z1148 e1352)).trans e1352))))))))))))))))))))))))))))))))
  have e1354 : Tg h1316 n1113 = 104100 := ((pRT hh1315).trans ((pNT hh1310 (pN_n hh1310 z1309 e1353)).trans e1353))
  have e1355 : Tg h1327 n1113 = 104100 := ((pRT hh1326).trans ((pNT hh1321 (pN_n hh1321 z1320 e1354)).trans e1354))
  have e1356 : Tg h1338 n1113 = 104100 := ((pRT hh1337).trans ((pNT hh1332 (pN_n hh1332 z1331 e1355)).trans e1355))
  have e1357 : Rv h1338 a0 5 = n1124 := ((pR_j hh1337 (by decide)).trans ((pNR hh1332 (pN_n hh1332 z1331 e1335)).trans ((pR_j hh1326 (by decide)).trans ((pNR hh1321 (pN_n hh1321 z1320 e1324)).trans ((pR_j hh1315 (by decide)).trans ((pNR hh1310 (pN_n hh1310 z1309 e1313)).trans ((pR_j hh1302 (by decide)).trans ((pJR hh1297).trans ((pJR hh1292).trans ((pJR hh1287).trans ((pJR hh1282).trans ((pJR hh1277).trans ((pJR hh1272).trans ((pJR hh1267).trans ((pJR hh1262).trans ((pJR hh1257).trans ((pJR hh1252).trans ((pJR hh1247).trans ((pJR hh1242).trans ((pJR hh1237).trans ((pJR hh1232).trans ((pJR hh1227).trans ((pJR hh1222).trans ((pJR hh1217).trans ((pJR hh1212).trans ((pJR hh1207).trans ((pJR hh1202).trans ((pJR hh1197).trans ((pJR hh1192).trans ((pJR hh1187).trans ((pJR hh1182).trans ((pJR hh1177).trans ((pJR hh1172).trans ((pJR hh1167).trans ((pJR hh1162).trans ((pJR hh1157).trans ((pJR hh1152).trans ((pNR hh1149 (pN_n hh1149 z1148 e1300)).trans ((pR_j hh1143 (by decide)).trans ((pNR hh1138 (pN_n hh1138 z1137 e1141)).trans (pR_e hh1132)))))))))))))))))))))))))))))))))))))))))
  have e1358 : Tg h1133 n1124 = 105100 := ((pRT hh1132).trans (pN_T hh1127))
  have e1359 : Tg h1144 n1124 = 105100 := ((pRT hh1143).trans ((pNT hh1138 (pN_n hh1138 z1137 e1358)).trans e1358))
  have e1360 : Tg h1303 n1124 = 105100 := ((pRT hh1302).trans ((pJT hh1297).trans ((pJT hh1292).trans ((pJT hh1287).trans ((pJT hh1282).trans ((pJT hh1277).trans ((pJT hh1272).trans ((pJT hh1267).trans ((pJT hh1262).trans ((pJT hh1257).trans ((pJT hh1252).trans ((pJT hh1247).trans ((pJT hh1242).trans ((pJT hh1237).trans ((pJT hh1232).trans ((pJT hh1227).trans ((pJT hh1222).trans ((pJT hh1217).trans ((pJT hh1212).trans ((pJT hh1207).trans ((pJT hh1202).trans ((pJT hh1197).trans ((pJT hh1192).trans ((pJT hh1187).trans ((pJT hh1182).trans ((pJT hh1177).trans ((pJT hh1172).trans ((pJT hh1167).trans ((pJT hh1162).trans ((pJT hh1157).trans ((pJT hh1152).trans ((pNT hh1149 (pN_n hh1149 z1148 e1359)).trans e1359))))))))))))))))))))))))))))))))
  have e1361 : Tg h1316 n1124 = 105100 := ((pRT hh1315).trans ((pNT hh1310 (pN_n hh1310 z1309 e1360)).trans e1360))
  have e1362 : Tg h1327 n1124 = 105100 := ((pRT hh1326).trans ((pNT hh1321 (pN_n hh1321 z1320 e1361)).trans e1361))
  have e1363 : Tg h1338 n1124 = 105100 := ((pRT hh1337).trans ((pNT hh1332 (pN_n hh1332 z1331 e1362)).trans e1362))
  have e1364 : Rv h1338 a0 6 = n1135 := ((pR_j hh1337 (by decide)).trans ((pNR hh1332 (pN_n hh1332 z1331 e1335)).trans ((pR_j hh1326 (by decide)).trans ((pNR hh1321 (pN_n hh1321 z1320 e1324)).trans ((pR_j hh1315 (by decide)).trans ((pNR hh1310 (pN_n hh1310 z1309 e1313)).trans ((pR_j hh1302 (by decide)).trans ((pJR hh1297).trans ((pJR hh1292).trans ((pJR hh1287).trans ((pJR hh1282).trans ((pJR hh1277).trans ((pJR hh1272).trans ((pJR hh1267).trans ((pJR hh1262).trans ((pJR hh1257).trans ((pJR hh1252).trans ((pJR hh1247).trans ((pJR hh1242).trans ((pJR hh1237).trans ((pJR hh1232).trans ((pJR hh1227).trans ((pJR hh1222).trans ((pJR hh1217).trans ((pJR hh1212).trans ((pJR hh1207).trans ((pJR hh1202).trans ((pJR hh1197).trans ((pJR hh1192).trans ((pJR hh1187).trans ((pJR hh1182).trans ((pJR hh1177).trans ((pJR hh1172).trans ((pJR hh1167).trans ((pJR hh1162).trans ((pJR hh1157).trans ((pJR hh1152).trans ((pNR hh1149 (pN_n hh1149 z1148 e1300)).trans (pR_e hh1143)))))))))))))))))))))))))))))))))))))))
  have e1365 : Tg h1144 n1135 = 106102 := ((pRT hh1143).trans (pN_T hh1138))
  have e1366 : Tg h1303 n1135 = 106102 := ((pRT hh1302).trans ((pJT hh1297).trans ((pJT hh1292).trans ((pJT hh1287).trans ((pJT hh1282).trans ((pJT hh1277).trans ((pJT hh1272).trans ((pJT hh1267).trans ((pJT hh1262).trans ((pJT hh1257).trans ((pJT hh1252).trans ((pJT hh1247).trans ((pJT hh1242).trans ((pJT hh1237).trans ((pJT hh1232).trans ((pJT hh1227).trans ((pJT hh1222).trans ((pJT hh1217).trans ((pJT hh1212).trans ((pJT hh1207).trans ((pJT hh1202).trans ((pJT hh1197).trans ((pJT hh1192).trans ((pJT hh1187).trans ((pJT hh1182).trans ((pJT hh1177).trans ((pJT hh1172).trans ((pJT hh1167).trans ((pJT hh1162).trans ((pJT hh1157).trans ((pJT hh1152).trans ((pNT hh1149 (pN_n hh1149 z1148 e1365)).trans e1365))))))))))))))))))))))))))))))))
  have e1367 : Tg h1316 n1135 = 106102 := ((pRT hh1315).trans ((pNT hh1310 (pN_n hh1310 z1309 e1366)).trans e1366))
  have e1368 : Tg h1327 n1135 = 106102 := ((pRT hh1326).trans ((pNT hh1321 (pN_n hh1321 z1320 e1367)).trans e1367))
  have e1369 : Tg h1338 n1135 = 106102 := ((pRT hh1337).trans ((pNT hh1332 (pN_n hh1332 z1331 e1368)).trans e1368))
  have e1370 : Rv h1338 a0 9 = n1146 := ((pR_j hh1337 (by decide)).trans ((pNR hh1332 (pN_n hh1332 z1331 e1335)).trans ((pR_j hh1326 (by decide)).trans ((pNR hh1321 (pN_n hh1321 z1320 e1324)).trans ((pR_j hh1315 (by decide)).trans ((pNR hh1310 (pN_n hh1310 z1309 e1313)).trans (pR_e hh1302)))))))
  have e1371 : Tg h1303 n1146 = 109102 := ((pRT hh1302).trans e1305)
  have e1372 : Tg h1316 n1146 = 109102 := ((pRT hh1315).trans ((pNT hh1310 (pN_n hh1310 z1309 e1371)).trans e1371))
  have e1373 : Tg h1327 n1146 = 109102 := ((pRT hh1326).trans ((pNT hh1321 (pN_n hh1321 z1320 e1372)).trans e1372))
  have e1374 : Tg h1338 n1146 = 109102 := ((pRT hh1337).trans ((pNT hh1332 (pN_n hh1332 z1331 e1373)).trans e1373))
  have e1375 : Rv h1338 a0 11 = n1307 := ((pR_j hh1337 (by decide)).trans ((pNR hh1332 (pN_n hh1332 z1331 e1335)).trans ((pR_j hh1326 (by decide)).trans ((pNR hh1321 (pN_n hh1321 z1320 e1324)).trans (pR_e hh1315)))))
  have e1376 : Tg h1316 n1307 = 111100 := ((pRT hh1315).trans (pN_T hh1310))
  have e1377 : Tg h1327 n1307 = 111100 := ((pRT hh1326).trans ((pNT hh1321 (pN_n hh1321 z1320 e1376)).trans e1376))
  have e1378 : Tg h1338 n1307 = 111100 := ((pRT hh1337).trans ((pNT hh1332 (pN_n hh1332 z1331 e1377)).trans e1377))
  have e1379 : Rv h1338 a0 12 = n1318 := ((pR_j hh1337 (by decide)).trans ((pNR hh1332 (pN_n hh1332 z1331 e1335)).trans (pR_e hh1326)))
  have e1380 : Tg h1327 n1318 = 112100 := ((pRT hh1326).trans (pN_T hh1321))
  have e1381 : Tg h1338 n1318 = 112100 := ((pRT hh1337).trans ((pNT hh1332 (pN_n hh1332 z1331 e1380)).trans e1380))
  have e1382 : Tg h1338 n1329 = 113102 := ((pRT hh1337).trans (pN_T hh1332))
  exact J966 _ O1339 (((((((((((((((((((((((((((((((((((((((((((((((Fx.rf (wr := [202401, 202404, 202405, 202406, 202409, 202411, 202412, 202413, 202414, 202415, 202416, 202417, 202418, 202419, 202420, 202421, 202422, 202423, 202424, 202425, 202426, 202427, 202429, 202430, 202431, 202432, 202434, 202435, 202436, 202437, 202438, 202439, 202441, 202442, 202443, 202444, 202445, 202446, 202447, 202448, 202449, 202450, 202451, 202452, 202453, 202454, 202455, 202456, 202458, 202459, 202460, 202461, 202463, 202464, 202465, 202466, 202467, 202468, 202470, 202471, 202472, 202473, 202474, 202475, 202476, 202481, 202482, 202484, 202485, 202486, 21820400, 27220000, 27420200, 27820000, 1000101100, 1000104100, 1000105100, 1000106102, 1000109102, 1000111100, 1000112100, 1000113102, 1000114100, 1000115100, 1000116101, 1000117101, 1000118101, 1000119100, 1000120101, 1000121100, 1000122100, 1000123100, 1000124100, 1000125100, 1000126100, 1000127100, 1000129100, 1000130100, 1000131100, 1000132100, 1000136100, 1000137101, 1000138101, 1000139100, 1000141100, 1000142100, 1000143100, 1000144100, 1000145100, 1000146100, 1000147100, 1000148100, 1000149100, 1000150100, 1000151100, 1000152101, 1000153101, 1000154100, 1000155100, 1000156100, 1000158101, 1000159100, 1000160100, 1000161100, 1000163100, 1000164100, 1000165100, 1000166100, 1000167100, 1000168100, 1000170101, 1000171100, 1000172102, 1000173101, 1000174101, 1000175100, 1000176100, 1000181100, 1000182101, 1000184100, 1000185100, 1000186100]) (h := h)).pN z1105 hh1106 rfl).pR e1109 hh1110 rfl).pN z1115 hh1116 rfl).pR e1120 hh1121 rfl).pN z1126 hh1127 rfl).pR e1131 hh1132 rfl).pN z1137 hh1138 rfl).pR e1142 hh1143 rfl).pN z1148 hh1149 rfl).pJa (pN_T hh1149) ar_109102 hh1152 rfl).pJa e1155 ar_109102 hh1157 rfl).pJa e1160 ar_109102 hh1162 rfl).pJa e1165 ar_109102 hh1167 rfl).pJa e1170 ar_109102 hh1172 rfl).pJa e1175 ar_109102 hh1177 rfl).pJa e1180 ar_109102 hh1182 rfl).pJa e1185 ar_109102 hh1187 rfl).pJa e1190 ar_109102 hh1192 rfl).pJa e1195 ar_109102 hh1197 rfl).pJa e1200 ar_109102 hh1202 rfl).pJa e1205 ar_109102 hh1207 rfl).pJa e1210 ar_109102 hh1212 rfl).pJa e1215 ar_109102 hh1217 rfl).pJa e1220 ar_109102 hh1222 rfl).pJa e1225 ar_109102 hh1227 rfl).pJa e1230 ar_109102 hh1232 rfl).pJa e1235 ar_109102 hh1237 rfl).pJa e1240 ar_109102 hh1242 rfl).pJa e1245 ar_109102 hh1247 rfl).pJa e1250 ar_109102 hh1252 rfl).pJa e1255 ar_109102 hh1257 rfl).pJa e1260 ar_109102 hh1262 rfl).pJa e1265 ar_109102 hh1267 rfl).pJa e1270 ar_109102 hh1272 rfl).pJa e1275 ar_109102 hh1277 rfl).pJa e1280 ar_109102 hh1282 rfl).pJa e1285 ar_109102 hh1287 rfl).pJa e1290 ar_109102 hh1292 rfl).pJa e1295 ar_109102 hh1297 rfl).pR e1301 hh1302 rfl).pN z1309 hh1310 rfl).pR e1314 hh1315 rfl).pN z1320 hh1321 rfl).pR e1325 hh1326 rfl).pN z1331 hh1332 rfl).pR e1336 hh1337 rfl) (NZ_cons (by rw [(pR_e hh1337)]; exact nz_of O1339 e1382) (NZ_cons (by rw [e1379]; exact nz_of O1339 e1381) (NZ_cons (by rw [e1375]; exact nz_of O1339 e1378) (NZ_cons (by rw [e1370]; exact nz_of O1339 e1374) (NZ_cons (by rw [e1364]; exact nz_of O1339 e1369) (NZ_cons (by rw [e1357]; exact nz_of O1339 e1363) (NZ_cons (by rw [e1349]; exact nz_of O1339 e1356) (NZ_cons (by rw [e1340]; exact nz_of O1339 e1348) NZ_nil))))))))
