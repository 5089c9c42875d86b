/-! THE TABLE HOLDS: methods -/
theorem av_memL {w : Cond} {i : Nat} (h : (k2_sels lw_privs)[i]? = some w) : w ∈ lw_tbl := List.mem_append_left _ (List.mem_of_getElem? h)
set_option maxRecDepth 100000 in
set_option maxHeartbeats 2000000 in
theorem hk_0 : av_hok ms_0 := ⟨by decide +kernel, rfl, av_mem (i := 187) rfl, av_mem (i := 11) rfl, ⟨by decide +kernel, by decide +kernel⟩, by decide +kernel, Or.inr (Or.inl ⟨rfl, rfl, av_mem (i := 186) rfl, rfl⟩)⟩
set_option maxRecDepth 100000 in
set_option maxHeartbeats 2000000 in
theorem hk_1 : av_hok ms_1 := ⟨by decide +kernel, rfl, av_mem (i := 597) rfl, av_mem (i := 11) rfl, ⟨by decide +kernel, by decide +kernel⟩, by decide +kernel, Or.inl ⟨rfl, by decide, av_mem (i := 595) rfl, av_mem (i := 596) rfl⟩⟩
set_option maxRecDepth 100000 in
set_option maxHeartbeats 2000000 in
theorem hk_2 : av_hok ms_2 := ⟨by decide +kernel, rfl, av_mem (i := 659) rfl, av_mem (i := 11) rfl, ⟨by decide +kernel, by decide +kernel⟩, by decide +kernel, Or.inl ⟨rfl, by decide, av_mem (i := 657) rfl, av_mem (i := 658) rfl⟩⟩
set_option maxRecDepth 100000 in
set_option maxHeartbeats 2000000 in
theorem hk_3 : av_hok ms_3 := ⟨by decide +kernel, rfl, av_mem (i := 702) rfl, av_mem (i := 11) rfl, ⟨by decide +kernel, by decide +kernel⟩, by decide +kernel, Or.inl ⟨rfl, by decide, av_mem (i := 700) rfl, av_mem (i := 701) rfl⟩⟩
set_option maxRecDepth 100000 in
set_option maxHeartbeats 2000000 in
theorem hk_4 : av_hok ms_4 := ⟨by decide +kernel, rfl, av_mem (i := 608) rfl, av_mem (i := 11) rfl, ⟨by decide +kernel, by decide +kernel⟩, by decide +kernel, Or.inl ⟨rfl, by decide, av_mem (i := 606) rfl, av_mem (i := 607) rfl⟩⟩
set_option maxRecDepth 100000 in
set_option maxHeartbeats 2000000 in
theorem hk_5 : av_hok ms_5 := ⟨by decide +kernel, rfl, av_mem (i := 613) rfl, av_mem (i := 11) rfl, ⟨by decide +kernel, by decide +kernel⟩, by decide +kernel, Or.inl ⟨rfl, by decide, av_mem (i := 612) rfl, av_memL (i := 12) rfl⟩⟩
set_option maxRecDepth 100000 in
set_option maxHeartbeats 2000000 in
theorem hk_6 : av_hok ms_6 := ⟨by decide +kernel, rfl, av_mem (i := 617) rfl, av_mem (i := 11) rfl, ⟨by decide +kernel, by decide +kernel⟩, by decide +kernel, Or.inl ⟨rfl, by decide, av_mem (i := 615) rfl, av_mem (i := 616) rfl⟩⟩
set_option maxRecDepth 100000 in
set_option maxHeartbeats 2000000 in
theorem hk_7 : av_hok ms_7 := ⟨by decide +kernel, rfl, av_mem (i := 664) rfl, av_mem (i := 11) rfl, ⟨by decide +kernel, by decide +kernel⟩, by decide +kernel, Or.inl ⟨rfl, by decide, av_mem (i := 663) rfl, av_memL (i := 16) rfl⟩⟩
set_option maxRecDepth 100000 in
set_option maxHeartbeats 2000000 in
theorem hk_8 : av_hok ms_8 := ⟨by decide +kernel, rfl, av_mem (i := 669) rfl, av_mem (i := 11) rfl, ⟨by decide +kernel, by decide +kernel⟩, by decide +kernel, Or.inl ⟨rfl, by decide, av_mem (i := 668) rfl, av_memL (i := 17) rfl⟩⟩
set_option maxRecDepth 100000 in
set_option maxHeartbeats 2000000 in
theorem hk_9 : av_hok ms_9 := ⟨by decide +kernel, rfl, av_mem (i := 673) rfl, av_mem (i := 11) rfl, ⟨by decide +kernel, by decide +kernel⟩, by decide +kernel, Or.inl ⟨rfl, by decide, av_mem (i := 672) rfl, av_memL (i := 18) rfl⟩⟩
set_option maxRecDepth 100000 in
set_option maxHeartbeats 2000000 in
theorem hk_10 : av_hok ms_10 := ⟨by decide +kernel, rfl, av_mem (i := 678) rfl, av_mem (i := 11) rfl, ⟨by decide +kernel, by decide +kernel⟩, by decide +kernel, Or.inl ⟨rfl, by decide, av_mem (i := 677) rfl, av_memL (i := 19) rfl⟩⟩
set_option maxRecDepth 100000 in
set_option maxHeartbeats 2000000 in
theorem hk_11 : av_hok ms_11 := ⟨by decide +kernel, rfl, av_mem (i := 682) rfl, av_mem (i := 11) rfl, ⟨by decide +kernel, by decide +kernel⟩, by decide +kernel, Or.inl ⟨rfl, by decide, av_mem (i := 681) rfl, av_memL (i := 20) rfl⟩⟩
set_option maxRecDepth 100000 in
set_option maxHeartbeats 2000000 in
theorem hk_12 : av_hok ms_12 := ⟨by decide +kernel, rfl, av_mem (i := 686) rfl, av_mem (i := 11) rfl, ⟨by decide +kernel, by decide +kernel⟩, by decide +kernel, Or.inl ⟨rfl, by decide, av_mem (i := 685) rfl, av_memL (i := 21) rfl⟩⟩
set_option maxRecDepth 100000 in
set_option maxHeartbeats 2000000 in
theorem hk_13 : av_hok ms_13 := ⟨by decide +kernel, rfl, av_mem (i := 690) rfl, av_mem (i := 11) rfl, ⟨by decide +kernel, by decide +kernel⟩, by decide +kernel, Or.inl ⟨rfl, by decide, av_mem (i := 689) rfl, av_memL (i := 22) rfl⟩⟩
set_option maxRecDepth 100000 in
set_option maxHeartbeats 2000000 in
theorem hk_14 : av_hok ms_14 := ⟨by decide +kernel, rfl, av_mem (i := 698) rfl, av_mem (i := 11) rfl, ⟨by decide +kernel, by decide +kernel⟩, by decide +kernel, Or.inl ⟨rfl, by decide, av_mem (i := 697) rfl, av_memL (i := 24) rfl⟩⟩
set_option maxRecDepth 100000 in
set_option maxHeartbeats 2000000 in
theorem hk_15 : av_hok ms_15 := ⟨by decide +kernel, rfl, av_mem (i := 718) rfl, av_mem (i := 11) rfl, ⟨by decide +kernel, by decide +kernel⟩, by decide +kernel, Or.inl ⟨rfl, by decide, av_mem (i := 716) rfl, av_mem (i := 717) rfl⟩⟩
set_option maxRecDepth 100000 in
set_option maxHeartbeats 2000000 in
theorem hk_16 : av_hok ms_16 := ⟨by decide +kernel, rfl, av_mem (i := 694) rfl, av_mem (i := 11) rfl, ⟨by decide +kernel, by decide +kernel⟩, by decide +kernel, Or.inl ⟨rfl, by decide, av_mem (i := 693) rfl, av_memL (i := 23) rfl⟩⟩
set_option maxRecDepth 100000 in
set_option maxHeartbeats 2000000 in
theorem hk_17 : av_hok ms_17 := ⟨by decide +kernel, rfl, av_mem (i := 706) rfl, av_mem (i := 11) rfl, ⟨by decide +kernel, by decide +kernel⟩, by decide +kernel, Or.inl ⟨rfl, by decide, av_mem (i := 704) rfl, av_mem (i := 705) rfl⟩⟩
set_option maxRecDepth 100000 in
set_option maxHeartbeats 2000000 in
theorem hk_18 : av_hok ms_18 := ⟨by decide +kernel, rfl, av_mem (i := 727) rfl, av_mem (i := 11) rfl, ⟨by decide +kernel, by decide +kernel⟩, by decide +kernel, Or.inl ⟨rfl, by decide, av_mem (i := 725) rfl, av_mem (i := 726) rfl⟩⟩
set_option maxRecDepth 100000 in
set_option maxHeartbeats 2000000 in
theorem hk_19 : av_hok ms_19 := ⟨by decide +kernel, rfl, av_mem (i := 766) rfl, av_mem (i := 11) rfl, ⟨by decide +kernel, by decide +kernel⟩, by decide +kernel, Or.inl ⟨rfl, by decide, av_mem (i := 764) rfl, av_mem (i := 765) rfl⟩⟩
set_option maxRecDepth 100000 in
set_option maxHeartbeats 2000000 in
theorem hk_20 : av_hok ms_20 := ⟨by decide +kernel, rfl, av_mem (i := 771) rfl, av_mem (i := 11) rfl, ⟨by decide +kernel, by decide +kernel⟩, by decide +kernel, Or.inl ⟨rfl, by decide, av_mem (i := 770) rfl, av_memL (i := 27) rfl⟩⟩
set_option maxRecDepth 100000 in
set_option maxHeartbeats 2000000 in
theorem hk_21 : av_hok ms_21 := ⟨by decide +kernel, rfl, av_mem (i := 828) rfl, av_mem (i := 11) rfl, ⟨by decide +kernel, by decide +kernel⟩, by decide +kernel, Or.inl ⟨rfl, by decide, av_mem (i := 826) rfl, av_mem (i := 827) rfl⟩⟩
set_option maxRecDepth 100000 in
set_option maxHeartbeats 2000000 in
theorem hk_22 : av_hok ms_22 := ⟨by decide +kernel, rfl, av_mem (i := 832) rfl, av_mem (i := 11) rfl, ⟨by decide +kernel, by decide +kernel⟩, by decide +kernel, Or.inl ⟨rfl, by decide, av_mem (i := 831) rfl, av_memL (i := 29) rfl⟩⟩
set_option maxRecDepth 100000 in
set_option maxHeartbeats 2000000 in
theorem hk_23 : av_hok ms_23 := ⟨by decide +kernel, rfl, av_mem (i := 843) rfl, av_mem (i := 11) rfl, ⟨by decide +kernel, by decide +kernel⟩, by decide +kernel, Or.inl ⟨rfl, by decide, av_mem (i := 841) rfl, av_mem (i := 842) rfl⟩⟩
set_option maxRecDepth 100000 in
set_option maxHeartbeats 2000000 in
theorem hk_24 : av_hok ms_24 := ⟨by decide +kernel, rfl, av_mem (i := 860) rfl, av_mem (i := 11) rfl, ⟨by decide +kernel, by decide +kernel⟩, by decide +kernel, Or.inl ⟨rfl, by decide, av_mem (i := 858) rfl, av_mem (i := 859) rfl⟩⟩
set_option maxRecDepth 100000 in
set_option maxHeartbeats 2000000 in
theorem hk_25 : av_hok ms_25 := ⟨by decide +kernel, rfl, av_mem (i := 847) rfl, av_mem (i := 11) rfl, ⟨by decide +kernel, by decide +kernel⟩, by decide +kernel, Or.inl ⟨rfl, by decide, av_mem (i := 846) rfl, av_memL (i := 30) rfl⟩⟩
set_option maxRecDepth 100000 in
set_option maxHeartbeats 2000000 in
theorem hk_26 : av_hok ms_26 := ⟨by decide +kernel, rfl, av_mem (i := 852) rfl, av_mem (i := 11) rfl, ⟨by decide +kernel, by decide +kernel⟩, by decide +kernel, Or.inl ⟨rfl, by decide, av_mem (i := 851) rfl, av_memL (i := 31) rfl⟩⟩
set_option maxRecDepth 100000 in
set_option maxHeartbeats 2000000 in
theorem hk_27 : av_hok ms_27 := ⟨by decide +kernel, rfl, av_mem (i := 137) rfl, av_mem (i := 7) rfl, ⟨by decide +kernel, by decide +kernel⟩, by decide +kernel, Or.inr (Or.inl ⟨rfl, rfl, av_mem (i := 136) rfl, rfl⟩)⟩
set_option maxRecDepth 100000 in
set_option maxHeartbeats 2000000 in
theorem hk_28 : av_hok ms_28 := ⟨by decide +kernel, rfl, av_mem (i := 576) rfl, av_mem (i := 7) rfl, ⟨by decide +kernel, by decide +kernel⟩, by decide +kernel, Or.inl ⟨rfl, by decide, av_mem (i := 574) rfl, av_mem (i := 575) rfl⟩⟩
set_option maxRecDepth 100000 in
set_option maxHeartbeats 2000000 in
theorem hk_29 : av_hok ms_29 := ⟨by decide +kernel, rfl, av_mem (i := 580) rfl, av_mem (i := 7) rfl, ⟨by decide +kernel, by decide +kernel⟩, by decide +kernel, Or.inl ⟨rfl, by decide, av_mem (i := 578) rfl, av_mem (i := 579) rfl⟩⟩
set_option maxRecDepth 100000 in
set_option maxHeartbeats 2000000 in
theorem hk_30 : av_hok ms_30 := ⟨by decide +kernel, rfl, av_mem (i := 603) rfl, av_mem (i := 7) rfl, ⟨by decide +kernel, by decide +kernel⟩, by decide +kernel, Or.inl ⟨rfl, by decide, av_mem (i := 601) rfl, av_mem (i := 602) rfl⟩⟩
set_option maxRecDepth 100000 in
set_option maxHeartbeats 2000000 in
theorem hk_31 : av_hok ms_31 := ⟨by decide +kernel, rfl, av_mem (i := 710) rfl, av_mem (i := 7) rfl, ⟨by decide +kernel, by decide +kernel⟩, by decide +kernel, Or.inl ⟨rfl, by decide, av_mem (i := 708) rfl, av_mem (i := 709) rfl⟩⟩
set_option maxRecDepth 100000 in
set_option maxHeartbeats 2000000 in
theorem hk_32 : av_hok ms_32 := ⟨by decide +kernel, rfl, av_mem (i := 868) rfl, av_mem (i := 7) rfl, ⟨by decide +kernel, by decide +kernel⟩, by decide +kernel, Or.inl ⟨rfl, by decide, av_mem (i := 866) rfl, av_mem (i := 867) rfl⟩⟩
set_option maxRecDepth 100000 in
set_option maxHeartbeats 2000000 in
theorem hk_33 : av_hok ms_33 := ⟨by decide +kernel, rfl, av_mem (i := 885) rfl, av_mem (i := 7) rfl, ⟨by decide +kernel, by decide +kernel⟩, by decide +kernel, Or.inl ⟨rfl, by decide, av_mem (i := 883) rfl, av_mem (i := 884) rfl⟩⟩
set_option maxRecDepth 100000 in
set_option maxHeartbeats 2000000 in
theorem hk_34 : av_hok ms_34 := ⟨by decide +kernel, rfl, av_mem (i := 101) rfl, av_mem (i := 4) rfl, ⟨by decide +kernel, by decide +kernel⟩, by decide +kernel, Or.inr (Or.inl ⟨rfl, rfl, av_mem (i := 100) rfl, rfl⟩)⟩
set_option maxRecDepth 100000 in
set_option maxHeartbeats 2000000 in
theorem hk_35 : av_hok ms_35 := ⟨by decide +kernel, rfl, av_mem (i := 344) rfl, av_mem (i := 4) rfl, ⟨by decide +kernel, by decide +kernel⟩, by decide +kernel, Or.inl ⟨rfl, by decide, av_mem (i := 342) rfl, av_mem (i := 343) rfl⟩⟩
set_option maxRecDepth 100000 in
set_option maxHeartbeats 2000000 in
theorem hk_36 : av_hok ms_36 := ⟨by decide +kernel, rfl, av_mem (i := 358) rfl, av_mem (i := 4) rfl, ⟨by decide +kernel, by decide +kernel⟩, by decide +kernel, Or.inl ⟨rfl, by decide, av_mem (i := 357) rfl, av_memL (i := 0) rfl⟩⟩
set_option maxRecDepth 100000 in
set_option maxHeartbeats 2000000 in
theorem hk_37 : av_hok ms_37 := ⟨by decide +kernel, rfl, av_mem (i := 427) rfl, av_mem (i := 4) rfl, ⟨by decide +kernel, by decide +kernel⟩, by decide +kernel, Or.inl ⟨rfl, by decide, av_mem (i := 426) rfl, av_memL (i := 1) rfl⟩⟩
set_option maxRecDepth 100000 in
set_option maxHeartbeats 2000000 in
theorem hk_38 : av_hok ms_38 := ⟨by decide +kernel, rfl, av_mem (i := 432) rfl, av_mem (i := 4) rfl, ⟨by decide +kernel, by decide +kernel⟩, by decide +kernel, Or.inl ⟨rfl, by decide, av_mem (i := 431) rfl, av_memL (i := 2) rfl⟩⟩
set_option maxRecDepth 100000 in
set_option maxHeartbeats 2000000 in
theorem hk_39 : av_hok ms_39 := ⟨by decide +kernel, rfl, av_mem (i := 440) rfl, av_mem (i := 4) rfl, ⟨by decide +kernel, by decide +kernel⟩, by decide +kernel, Or.inl ⟨rfl, by decide, av_mem (i := 439) rfl, av_memL (i := 3) rfl⟩⟩
set_option maxRecDepth 100000 in
set_option maxHeartbeats 2000000 in
theorem hk_40 : av_hok ms_40 := ⟨by decide +kernel, rfl, av_mem (i := 445) rfl, av_mem (i := 4) rfl, ⟨by decide +kernel, by decide +kernel⟩, by decide +kernel, Or.inl ⟨rfl, by decide, av_mem (i := 444) rfl, av_memL (i := 4) rfl⟩⟩
set_option maxRecDepth 100000 in
set_option maxHeartbeats 2000000 in
theorem hk_41 : av_hok ms_41 := ⟨by decide +kernel, rfl, av_mem (i := 466) rfl, av_mem (i := 4) rfl, ⟨by decide +kernel, by decide +kernel⟩, by decide +kernel, Or.inl ⟨rfl, by decide, av_mem (i := 465) rfl, av_memL (i := 6) rfl⟩⟩
set_option maxRecDepth 100000 in
set_option maxHeartbeats 2000000 in
theorem hk_42 : av_hok ms_42 := ⟨by decide +kernel, rfl, av_mem (i := 449) rfl, av_mem (i := 4) rfl, ⟨by decide +kernel, by decide +kernel⟩, by decide +kernel, Or.inl ⟨rfl, by decide, av_mem (i := 448) rfl, av_memL (i := 5) rfl⟩⟩
set_option maxRecDepth 100000 in
set_option maxHeartbeats 2000000 in
theorem hk_43 : av_hok ms_43 := ⟨by decide +kernel, rfl, av_mem (i := 470) rfl, av_mem (i := 4) rfl, ⟨by decide +kernel, by decide +kernel⟩, by decide +kernel, Or.inl ⟨rfl, by decide, av_mem (i := 469) rfl, av_memL (i := 7) rfl⟩⟩
set_option maxRecDepth 100000 in
set_option maxHeartbeats 2000000 in
theorem hk_44 : av_hok ms_44 := ⟨by decide +kernel, rfl, av_mem (i := 480) rfl, av_mem (i := 4) rfl, ⟨by decide +kernel, by decide +kernel⟩, by decide +kernel, Or.inl ⟨rfl, by decide, av_mem (i := 479) rfl, av_memL (i := 8) rfl⟩⟩
set_option maxRecDepth 100000 in
set_option maxHeartbeats 2000000 in
theorem hk_45 : av_hok ms_45 := ⟨by decide +kernel, rfl, av_mem (i := 131) rfl, av_mem (i := 6) rfl, ⟨by decide +kernel, by decide +kernel⟩, by decide +kernel, Or.inr (Or.inl ⟨rfl, rfl, av_mem (i := 130) rfl, rfl⟩)⟩
set_option maxRecDepth 100000 in
set_option maxHeartbeats 2000000 in
theorem hk_46 : av_hok ms_46 := ⟨by decide +kernel, rfl, av_mem (i := 510) rfl, av_mem (i := 6) rfl, ⟨by decide +kernel, by decide +kernel⟩, by decide +kernel, Or.inl ⟨rfl, by decide, av_mem (i := 508) rfl, av_mem (i := 509) rfl⟩⟩
set_option maxRecDepth 100000 in
set_option maxHeartbeats 2000000 in
theorem hk_47 : av_hok ms_47 := ⟨by decide +kernel, rfl, av_mem (i := 593) rfl, av_mem (i := 6) rfl, ⟨by decide +kernel, by decide +kernel⟩, by decide +kernel, Or.inl ⟨rfl, by decide, av_mem (i := 591) rfl, av_mem (i := 592) rfl⟩⟩
set_option maxRecDepth 100000 in
set_option maxHeartbeats 2000000 in
theorem hk_48 : av_hok ms_48 := ⟨by decide +kernel, rfl, av_mem (i := 633) rfl, av_mem (i := 6) rfl, ⟨by decide +kernel, by decide +kernel⟩, by decide +kernel, Or.inl ⟨rfl, by decide, av_mem (i := 631) rfl, av_mem (i := 632) rfl⟩⟩
set_option maxRecDepth 100000 in
set_option maxHeartbeats 2000000 in
theorem hk_49 : av_hok ms_49 := ⟨by decide +kernel, rfl, av_mem (i := 735) rfl, av_mem (i := 6) rfl, ⟨by decide +kernel, by decide +kernel⟩, by decide +kernel, Or.inl ⟨rfl, by decide, av_mem (i := 733) rfl, av_mem (i := 734) rfl⟩⟩
set_option maxRecDepth 100000 in
set_option maxHeartbeats 2000000 in
theorem hk_50 : av_hok ms_50 := ⟨by decide +kernel, rfl, av_mem (i := 783) rfl, av_mem (i := 6) rfl, ⟨by decide +kernel, by decide +kernel⟩, by decide +kernel, Or.inl ⟨rfl, by decide, av_mem (i := 781) rfl, av_mem (i := 782) rfl⟩⟩
set_option maxRecDepth 100000 in
set_option maxHeartbeats 2000000 in
theorem hk_51 : av_hok ms_51 := ⟨by decide +kernel, rfl, av_mem (i := 638) rfl, av_mem (i := 6) rfl, ⟨by decide +kernel, by decide +kernel⟩, by decide +kernel, Or.inl ⟨rfl, by decide, av_mem (i := 636) rfl, av_mem (i := 637) rfl⟩⟩
set_option maxRecDepth 100000 in
set_option maxHeartbeats 2000000 in
theorem hk_52 : av_hok ms_52 := ⟨by decide +kernel, rfl, av_mem (i := 643) rfl, av_mem (i := 6) rfl, ⟨by decide +kernel, by decide +kernel⟩, by decide +kernel, Or.inl ⟨rfl, by decide, av_mem (i := 642) rfl, av_memL (i := 13) rfl⟩⟩
set_option maxRecDepth 100000 in
set_option maxHeartbeats 2000000 in
theorem hk_53 : av_hok ms_53 := ⟨by decide +kernel, rfl, av_mem (i := 647) rfl, av_mem (i := 6) rfl, ⟨by decide +kernel, by decide +kernel⟩, by decide +kernel, Or.inl ⟨rfl, by decide, av_mem (i := 646) rfl, av_memL (i := 14) rfl⟩⟩
set_option maxRecDepth 100000 in
set_option maxHeartbeats 2000000 in
theorem hk_54 : av_hok ms_54 := ⟨by decide +kernel, rfl, av_mem (i := 651) rfl, av_mem (i := 6) rfl, ⟨by decide +kernel, by decide +kernel⟩, by decide +kernel, Or.inl ⟨rfl, by decide, av_mem (i := 650) rfl, av_memL (i := 15) rfl⟩⟩
set_option maxRecDepth 100000 in
set_option maxHeartbeats 2000000 in
theorem hk_55 : av_hok ms_55 := ⟨by decide +kernel, rfl, av_mem (i := 655) rfl, av_mem (i := 6) rfl, ⟨by decide +kernel, by decide +kernel⟩, by decide +kernel, Or.inr (Or.inr ⟨rfl, av_mem (i := 654) rfl⟩)⟩
set_option maxRecDepth 100000 in
set_option maxHeartbeats 2000000 in
theorem hk_56 : av_hok ms_56 := ⟨by decide +kernel, rfl, av_mem (i := 739) rfl, av_mem (i := 6) rfl, ⟨by decide +kernel, by decide +kernel⟩, by decide +kernel, Or.inl ⟨rfl, by decide, av_mem (i := 737) rfl, av_mem (i := 738) rfl⟩⟩
set_option maxRecDepth 100000 in
set_option maxHeartbeats 2000000 in
theorem hk_57 : av_hok ms_57 := ⟨by decide +kernel, rfl, av_mem (i := 744) rfl, av_mem (i := 6) rfl, ⟨by decide +kernel, by decide +kernel⟩, by decide +kernel, Or.inl ⟨rfl, by decide, av_mem (i := 743) rfl, av_memL (i := 25) rfl⟩⟩
set_option maxRecDepth 100000 in
set_option maxHeartbeats 2000000 in
theorem hk_58 : av_hok ms_58 := ⟨by decide +kernel, rfl, av_mem (i := 754) rfl, av_mem (i := 6) rfl, ⟨by decide +kernel, by decide +kernel⟩, by decide +kernel, Or.inl ⟨rfl, by decide, av_mem (i := 752) rfl, av_mem (i := 753) rfl⟩⟩
set_option maxRecDepth 100000 in
set_option maxHeartbeats 2000000 in
theorem hk_59 : av_hok ms_59 := ⟨by decide +kernel, rfl, av_mem (i := 758) rfl, av_mem (i := 6) rfl, ⟨by decide +kernel, by decide +kernel⟩, by decide +kernel, Or.inl ⟨rfl, by decide, av_mem (i := 757) rfl, av_memL (i := 26) rfl⟩⟩
set_option maxRecDepth 100000 in
set_option maxHeartbeats 2000000 in
theorem hk_60 : av_hok ms_60 := ⟨by decide +kernel, rfl, av_mem (i := 787) rfl, av_mem (i := 6) rfl, ⟨by decide +kernel, by decide +kernel⟩, by decide +kernel, Or.inl ⟨rfl, by decide, av_mem (i := 785) rfl, av_mem (i := 786) rfl⟩⟩
set_option maxRecDepth 100000 in
set_option maxHeartbeats 2000000 in
theorem hk_61 : av_hok ms_61 := ⟨by decide +kernel, rfl, av_mem (i := 797) rfl, av_mem (i := 6) rfl, ⟨by decide +kernel, by decide +kernel⟩, by decide +kernel, Or.inl ⟨rfl, by decide, av_mem (i := 795) rfl, av_mem (i := 796) rfl⟩⟩
set_option maxRecDepth 100000 in
set_option maxHeartbeats 2000000 in
theorem hk_62 : av_hok ms_62 := ⟨by decide +kernel, rfl, av_mem (i := 791) rfl, av_mem (i := 6) rfl, ⟨by decide +kernel, by decide +kernel⟩, by decide +kernel, Or.inl ⟨rfl, by decide, av_mem (i := 790) rfl, av_memL (i := 28) rfl⟩⟩
set_option maxRecDepth 100000 in
set_option maxHeartbeats 2000000 in
theorem hk_63 : av_hok ms_63 := ⟨by decide +kernel, rfl, av_mem (i := 815) rfl, av_mem (i := 6) rfl, ⟨by decide +kernel, by decide +kernel⟩, by decide +kernel, Or.inl ⟨rfl, by decide, av_mem (i := 813) rfl, av_mem (i := 814) rfl⟩⟩
set_option maxRecDepth 100000 in
set_option maxHeartbeats 2000000 in
theorem hk_64 : av_hok ms_64 := ⟨by decide +kernel, rfl, av_mem (i := 117) rfl, av_mem (i := 5) rfl, ⟨by decide +kernel, by decide +kernel⟩, by decide +kernel, Or.inr (Or.inl ⟨rfl, rfl, av_mem (i := 116) rfl, rfl⟩)⟩
set_option maxRecDepth 100000 in
set_option maxHeartbeats 2000000 in
theorem hk_65 : av_hok ms_65 := ⟨by decide +kernel, rfl, av_mem (i := 521) rfl, av_mem (i := 5) rfl, ⟨by decide +kernel, by decide +kernel⟩, by decide +kernel, Or.inl ⟨rfl, by decide, av_mem (i := 519) rfl, av_mem (i := 520) rfl⟩⟩
set_option maxRecDepth 100000 in
set_option maxHeartbeats 2000000 in
theorem hk_66 : av_hok ms_66 := ⟨by decide +kernel, rfl, av_mem (i := 528) rfl, av_mem (i := 5) rfl, ⟨by decide +kernel, by decide +kernel⟩, by decide +kernel, Or.inl ⟨rfl, by decide, av_mem (i := 527) rfl, av_memL (i := 10) rfl⟩⟩
set_option maxRecDepth 100000 in
set_option maxHeartbeats 2000000 in
theorem hk_67 : av_hok ms_67 := ⟨by decide +kernel, rfl, av_mem (i := 534) rfl, av_mem (i := 5) rfl, ⟨by decide +kernel, by decide +kernel⟩, by decide +kernel, Or.inl ⟨rfl, by decide, av_mem (i := 533) rfl, av_memL (i := 11) rfl⟩⟩
set_option maxRecDepth 100000 in
set_option maxHeartbeats 2000000 in
theorem hk_68 : av_hok ms_68 := ⟨by decide +kernel, rfl, av_mem (i := 63) rfl, av_mem (i := 3) rfl, ⟨by decide +kernel, by decide +kernel⟩, by decide +kernel, Or.inr (Or.inl ⟨rfl, rfl, av_mem (i := 62) rfl, rfl⟩)⟩
set_option maxRecDepth 100000 in
set_option maxHeartbeats 2000000 in
theorem hk_69 : av_hok ms_69 := ⟨by decide +kernel, rfl, av_mem (i := 506) rfl, av_mem (i := 3) rfl, ⟨by decide +kernel, by decide +kernel⟩, by decide +kernel, Or.inl ⟨rfl, by decide, av_mem (i := 504) rfl, av_mem (i := 505) rfl⟩⟩
set_option maxRecDepth 100000 in
set_option maxHeartbeats 2000000 in
theorem hk_70 : av_hok ms_70 := ⟨by decide +kernel, rfl, av_mem (i := 625) rfl, av_mem (i := 3) rfl, ⟨by decide +kernel, by decide +kernel⟩, by decide +kernel, Or.inl ⟨rfl, by decide, av_mem (i := 623) rfl, av_mem (i := 624) rfl⟩⟩
set_option maxRecDepth 100000 in
set_option maxHeartbeats 2000000 in
theorem hk_71 : av_hok ms_71 := ⟨by decide +kernel, rfl, av_mem (i := 498) rfl, av_mem (i := 3) rfl, ⟨by decide +kernel, by decide +kernel⟩, by decide +kernel, Or.inl ⟨rfl, by decide, av_mem (i := 496) rfl, av_mem (i := 497) rfl⟩⟩
set_option maxRecDepth 100000 in
set_option maxHeartbeats 2000000 in
theorem hk_72 : av_hok ms_72 := ⟨by decide +kernel, rfl, av_mem (i := 547) rfl, av_mem (i := 3) rfl, ⟨by decide +kernel, by decide +kernel⟩, by decide +kernel, Or.inl ⟨rfl, by decide, av_mem (i := 545) rfl, av_mem (i := 546) rfl⟩⟩
set_option maxRecDepth 100000 in
set_option maxHeartbeats 2000000 in
theorem hk_73 : av_hok ms_73 := ⟨by decide +kernel, rfl, av_mem (i := 561) rfl, av_mem (i := 3) rfl, ⟨by decide +kernel, by decide +kernel⟩, by decide +kernel, Or.inl ⟨rfl, by decide, av_mem (i := 559) rfl, av_mem (i := 560) rfl⟩⟩
set_option maxRecDepth 100000 in
set_option maxHeartbeats 2000000 in
theorem hk_74 : av_hok ms_74 := ⟨by decide +kernel, rfl, av_mem (i := 553) rfl, av_mem (i := 3) rfl, ⟨by decide +kernel, by decide +kernel⟩, by decide +kernel, Or.inr (Or.inr ⟨rfl, av_mem (i := 552) rfl⟩)⟩
set_option maxRecDepth 100000 in
set_option maxHeartbeats 2000000 in
theorem hk_75 : av_hok ms_75 := ⟨by decide +kernel, rfl, av_mem (i := 819) rfl, av_mem (i := 3) rfl, ⟨by decide +kernel, by decide +kernel⟩, by decide +kernel, Or.inl ⟨rfl, by decide, av_mem (i := 817) rfl, av_mem (i := 818) rfl⟩⟩
set_option maxRecDepth 100000 in
set_option maxHeartbeats 2000000 in
theorem hk_76 : av_hok ms_76 := ⟨by decide +kernel, rfl, av_mem (i := 906) rfl, av_mem (i := 3) rfl, ⟨by decide +kernel, by decide +kernel⟩, by decide +kernel, Or.inl ⟨rfl, by decide, av_mem (i := 904) rfl, av_mem (i := 905) rfl⟩⟩
set_option maxRecDepth 100000 in
set_option maxHeartbeats 2000000 in
theorem hk_77 : av_hok ms_77 := ⟨by decide +kernel, rfl, av_mem (i := 894) rfl, av_mem (i := 3) rfl, ⟨by decide +kernel, by decide +kernel⟩, by decide +kernel, Or.inl ⟨rfl, by decide, av_mem (i := 892) rfl, av_mem (i := 893) rfl⟩⟩
set_option maxRecDepth 100000 in
set_option maxHeartbeats 2000000 in
theorem hk_78 : av_hok ms_78 := ⟨by decide +kernel, rfl, av_mem (i := 30) rfl, av_mem (i := 2) rfl, ⟨by decide +kernel, by decide +kernel⟩, by decide +kernel, Or.inr (Or.inl ⟨rfl, rfl, av_mem (i := 29) rfl, rfl⟩)⟩
set_option maxRecDepth 100000 in
set_option maxHeartbeats 2000000 in
theorem hk_79 : av_hok ms_79 := ⟨by decide +kernel, rfl, av_mem (i := 320) rfl, av_mem (i := 2) rfl, ⟨by decide +kernel, by decide +kernel⟩, by decide +kernel, Or.inl ⟨rfl, by decide, av_mem (i := 318) rfl, av_mem (i := 319) rfl⟩⟩
set_option maxRecDepth 100000 in
set_option maxHeartbeats 2000000 in
theorem hk_80 : av_hok ms_80 := ⟨by decide +kernel, rfl, av_mem (i := 328) rfl, av_mem (i := 2) rfl, ⟨by decide +kernel, by decide +kernel⟩, by decide +kernel, Or.inl ⟨rfl, by decide, av_mem (i := 326) rfl, av_mem (i := 327) rfl⟩⟩
set_option maxRecDepth 100000 in
set_option maxHeartbeats 2000000 in
theorem hk_81 : av_hok ms_81 := ⟨by decide +kernel, rfl, av_mem (i := 332) rfl, av_mem (i := 2) rfl, ⟨by decide +kernel, by decide +kernel⟩, by decide +kernel, Or.inl ⟨rfl, by decide, av_mem (i := 330) rfl, av_mem (i := 331) rfl⟩⟩
set_option maxRecDepth 100000 in
set_option maxHeartbeats 2000000 in
theorem hk_82 : av_hok ms_82 := ⟨by decide +kernel, rfl, av_mem (i := 337) rfl, av_mem (i := 2) rfl, ⟨by decide +kernel, by decide +kernel⟩, by decide +kernel, Or.inl ⟨rfl, by decide, av_mem (i := 335) rfl, av_mem (i := 336) rfl⟩⟩
set_option maxRecDepth 100000 in
set_option maxHeartbeats 2000000 in
theorem hk_83 : av_hok ms_83 := ⟨by decide +kernel, rfl, av_mem (i := 340) rfl, av_mem (i := 2) rfl, ⟨by decide +kernel, by decide +kernel⟩, by decide +kernel, Or.inr (Or.inr ⟨rfl, av_mem (i := 339) rfl⟩)⟩
set_option maxRecDepth 100000 in
set_option maxHeartbeats 2000000 in
theorem hk_84 : av_hok ms_84 := ⟨by decide +kernel, rfl, av_mem (i := 350) rfl, av_mem (i := 2) rfl, ⟨by decide +kernel, by decide +kernel⟩, by decide +kernel, Or.inl ⟨rfl, by decide, av_mem (i := 348) rfl, av_mem (i := 349) rfl⟩⟩
set_option maxRecDepth 100000 in
set_option maxHeartbeats 2000000 in
theorem hk_85 : av_hok ms_85 := ⟨by decide +kernel, rfl, av_mem (i := 354) rfl, av_mem (i := 2) rfl, ⟨by decide +kernel, by decide +kernel⟩, by decide +kernel, Or.inl ⟨rfl, by decide, av_mem (i := 352) rfl, av_mem (i := 353) rfl⟩⟩
set_option maxRecDepth 100000 in
set_option maxHeartbeats 2000000 in
theorem hk_86 : av_hok ms_86 := ⟨by decide +kernel, rfl, av_mem (i := 373) rfl, av_mem (i := 2) rfl, ⟨by decide +kernel, by decide +kernel⟩, by decide +kernel, Or.inl ⟨rfl, by decide, av_mem (i := 371) rfl, av_mem (i := 372) rfl⟩⟩
set_option maxRecDepth 100000 in
set_option maxHeartbeats 2000000 in
theorem hk_87 : av_hok ms_87 := ⟨by decide +kernel, rfl, av_mem (i := 369) rfl, av_mem (i := 2) rfl, ⟨by decide +kernel, by decide +kernel⟩, by decide +kernel, Or.inl ⟨rfl, by decide, av_mem (i := 367) rfl, av_mem (i := 368) rfl⟩⟩
set_option maxRecDepth 100000 in
set_option maxHeartbeats 2000000 in
theorem hk_88 : av_hok ms_88 := ⟨by decide +kernel, rfl, av_mem (i := 460) rfl, av_mem (i := 2) rfl, ⟨by decide +kernel, by decide +kernel⟩, by decide +kernel, Or.inl ⟨rfl, by decide, av_mem (i := 458) rfl, av_mem (i := 459) rfl⟩⟩
set_option maxRecDepth 100000 in
set_option maxHeartbeats 2000000 in
theorem hk_89 : av_hok ms_89 := ⟨by decide +kernel, rfl, av_mem (i := 476) rfl, av_mem (i := 2) rfl, ⟨by decide +kernel, by decide +kernel⟩, by decide +kernel, Or.inl ⟨rfl, by decide, av_mem (i := 474) rfl, av_mem (i := 475) rfl⟩⟩
set_option maxRecDepth 100000 in
set_option maxHeartbeats 2000000 in
theorem hk_90 : av_hok ms_90 := ⟨by decide +kernel, rfl, av_mem (i := 488) rfl, av_mem (i := 2) rfl, ⟨by decide +kernel, by decide +kernel⟩, by decide +kernel, Or.inl ⟨rfl, by decide, av_mem (i := 486) rfl, av_mem (i := 487) rfl⟩⟩
set_option maxRecDepth 100000 in
set_option maxHeartbeats 2000000 in
theorem hk_91 : av_hok ms_91 := ⟨by decide +kernel, rfl, av_mem (i := 436) rfl, av_mem (i := 2) rfl, ⟨by decide +kernel, by decide +kernel⟩, by decide +kernel, Or.inl ⟨rfl, by decide, av_mem (i := 434) rfl, av_mem (i := 435) rfl⟩⟩
set_option maxRecDepth 100000 in
set_option maxHeartbeats 2000000 in
theorem hk_92 : av_hok ms_92 := ⟨by decide +kernel, rfl, av_mem (i := 454) rfl, av_mem (i := 2) rfl, ⟨by decide +kernel, by decide +kernel⟩, by decide +kernel, Or.inl ⟨rfl, by decide, av_mem (i := 452) rfl, av_mem (i := 453) rfl⟩⟩
set_option maxRecDepth 100000 in
set_option maxHeartbeats 2000000 in
theorem hk_93 : av_hok ms_93 := ⟨by decide +kernel, rfl, av_mem (i := 22) rfl, av_mem (i := 1) rfl, ⟨by decide +kernel, by decide +kernel⟩, by decide +kernel, Or.inr (Or.inl ⟨rfl, rfl, av_mem (i := 21) rfl, rfl⟩)⟩
set_option maxRecDepth 100000 in
set_option maxHeartbeats 2000000 in
theorem hk_94 : av_hok ms_94 := ⟨by decide +kernel, rfl, av_mem (i := 316) rfl, av_mem (i := 1) rfl, ⟨by decide +kernel, by decide +kernel⟩, by decide +kernel, Or.inl ⟨rfl, by decide, av_mem (i := 314) rfl, av_mem (i := 315) rfl⟩⟩
set_option maxRecDepth 100000 in
set_option maxHeartbeats 2000000 in
theorem hk_95 : av_hok ms_95 := ⟨by decide +kernel, rfl, av_mem (i := 324) rfl, av_mem (i := 1) rfl, ⟨by decide +kernel, by decide +kernel⟩, by decide +kernel, Or.inl ⟨rfl, by decide, av_mem (i := 322) rfl, av_mem (i := 323) rfl⟩⟩
set_option maxRecDepth 100000 in
set_option maxHeartbeats 2000000 in
theorem hk_96 : av_hok ms_96 := ⟨by decide +kernel, rfl, av_mem (i := 502) rfl, av_mem (i := 1) rfl, ⟨by decide +kernel, by decide +kernel⟩, by decide +kernel, Or.inl ⟨rfl, by decide, av_mem (i := 500) rfl, av_mem (i := 501) rfl⟩⟩
set_option maxRecDepth 100000 in
set_option maxHeartbeats 2000000 in
theorem hk_97 : av_hok ms_97 := ⟨by decide +kernel, rfl, av_mem (i := 517) rfl, av_mem (i := 1) rfl, ⟨by decide +kernel, by decide +kernel⟩, by decide +kernel, Or.inl ⟨rfl, by decide, av_mem (i := 515) rfl, av_mem (i := 516) rfl⟩⟩
set_option maxRecDepth 100000 in
set_option maxHeartbeats 2000000 in
theorem hk_98 : av_hok ms_98 := ⟨by decide +kernel, rfl, av_mem (i := 557) rfl, av_mem (i := 1) rfl, ⟨by decide +kernel, by decide +kernel⟩, by decide +kernel, Or.inl ⟨rfl, by decide, av_mem (i := 555) rfl, av_mem (i := 556) rfl⟩⟩
set_option maxRecDepth 100000 in
set_option maxHeartbeats 2000000 in
theorem hk_99 : av_hok ms_99 := ⟨by decide +kernel, rfl, av_mem (i := 494) rfl, av_mem (i := 1) rfl, ⟨by decide +kernel, by decide +kernel⟩, by decide +kernel, Or.inl ⟨rfl, by decide, av_mem (i := 493) rfl, av_memL (i := 9) rfl⟩⟩
set_option maxRecDepth 100000 in
set_option maxHeartbeats 2000000 in
theorem hk_100 : av_hok ms_100 := ⟨by decide +kernel, rfl, av_mem (i := 565) rfl, av_mem (i := 1) rfl, ⟨by decide +kernel, by decide +kernel⟩, by decide +kernel, Or.inl ⟨rfl, by decide, av_mem (i := 563) rfl, av_mem (i := 564) rfl⟩⟩
set_option maxRecDepth 100000 in
set_option maxHeartbeats 2000000 in
theorem hk_101 : av_hok ms_101 := ⟨by decide +kernel, rfl, av_mem (i := 569) rfl, av_mem (i := 1) rfl, ⟨by decide +kernel, by decide +kernel⟩, by decide +kernel, Or.inl ⟨rfl, by decide, av_mem (i := 567) rfl, av_mem (i := 568) rfl⟩⟩
set_option maxRecDepth 100000 in
set_option maxHeartbeats 2000000 in
theorem hk_102 : av_hok ms_102 := ⟨by decide +kernel, rfl, av_mem (i := 572) rfl, av_mem (i := 1) rfl, ⟨by decide +kernel, by decide +kernel⟩, by decide +kernel, Or.inr (Or.inr ⟨rfl, av_mem (i := 571) rfl⟩)⟩
set_option maxRecDepth 100000 in
set_option maxHeartbeats 2000000 in
theorem hk_103 : av_hok ms_103 := ⟨by decide +kernel, rfl, av_mem (i := 585) rfl, av_mem (i := 1) rfl, ⟨by decide +kernel, by decide +kernel⟩, by decide +kernel, Or.inl ⟨rfl, by decide, av_mem (i := 583) rfl, av_mem (i := 584) rfl⟩⟩
set_option maxRecDepth 100000 in
set_option maxHeartbeats 2000000 in
theorem hk_104 : av_hok ms_104 := ⟨by decide +kernel, rfl, av_mem (i := 589) rfl, av_mem (i := 1) rfl, ⟨by decide +kernel, by decide +kernel⟩, by decide +kernel, Or.inl ⟨rfl, by decide, av_mem (i := 587) rfl, av_mem (i := 588) rfl⟩⟩
set_option maxRecDepth 100000 in
set_option maxHeartbeats 2000000 in
theorem hk_105 : av_hok ms_105 := ⟨by decide +kernel, rfl, av_mem (i := 621) rfl, av_mem (i := 1) rfl, ⟨by decide +kernel, by decide +kernel⟩, by decide +kernel, Or.inl ⟨rfl, by decide, av_mem (i := 619) rfl, av_mem (i := 620) rfl⟩⟩
set_option maxRecDepth 100000 in
set_option maxHeartbeats 2000000 in
theorem hk_106 : av_hok ms_106 := ⟨by decide +kernel, rfl, av_mem (i := 629) rfl, av_mem (i := 1) rfl, ⟨by decide +kernel, by decide +kernel⟩, by decide +kernel, Or.inl ⟨rfl, by decide, av_mem (i := 627) rfl, av_mem (i := 628) rfl⟩⟩
set_option maxRecDepth 100000 in
set_option maxHeartbeats 2000000 in
theorem hk_107 : av_hok ms_107 := ⟨by decide +kernel, rfl, av_mem (i := 714) rfl, av_mem (i := 1) rfl, ⟨by decide +kernel, by decide +kernel⟩, by decide +kernel, Or.inl ⟨rfl, by decide, av_mem (i := 712) rfl, av_mem (i := 713) rfl⟩⟩
set_option maxRecDepth 100000 in
set_option maxHeartbeats 2000000 in
theorem hk_108 : av_hok ms_108 := ⟨by decide +kernel, rfl, av_mem (i := 723) rfl, av_mem (i := 1) rfl, ⟨by decide +kernel, by decide +kernel⟩, by decide +kernel, Or.inl ⟨rfl, by decide, av_mem (i := 721) rfl, av_mem (i := 722) rfl⟩⟩
set_option maxRecDepth 100000 in
set_option maxHeartbeats 2000000 in
theorem hk_109 : av_hok ms_109 := ⟨by decide +kernel, rfl, av_mem (i := 731) rfl, av_mem (i := 1) rfl, ⟨by decide +kernel, by decide +kernel⟩, by decide +kernel, Or.inl ⟨rfl, by decide, av_mem (i := 729) rfl, av_mem (i := 730) rfl⟩⟩
set_option maxRecDepth 100000 in
set_option maxHeartbeats 2000000 in
theorem hk_110 : av_hok ms_110 := ⟨by decide +kernel, rfl, av_mem (i := 750) rfl, av_mem (i := 1) rfl, ⟨by decide +kernel, by decide +kernel⟩, by decide +kernel, Or.inl ⟨rfl, by decide, av_mem (i := 748) rfl, av_mem (i := 749) rfl⟩⟩
set_option maxRecDepth 100000 in
set_option maxHeartbeats 2000000 in
theorem hk_111 : av_hok ms_111 := ⟨by decide +kernel, rfl, av_mem (i := 762) rfl, av_mem (i := 1) rfl, ⟨by decide +kernel, by decide +kernel⟩, by decide +kernel, Or.inl ⟨rfl, by decide, av_mem (i := 760) rfl, av_mem (i := 761) rfl⟩⟩
set_option maxRecDepth 100000 in
set_option maxHeartbeats 2000000 in
theorem hk_112 : av_hok ms_112 := ⟨by decide +kernel, rfl, av_mem (i := 775) rfl, av_mem (i := 1) rfl, ⟨by decide +kernel, by decide +kernel⟩, by decide +kernel, Or.inl ⟨rfl, by decide, av_mem (i := 773) rfl, av_mem (i := 774) rfl⟩⟩
set_option maxRecDepth 100000 in
set_option maxHeartbeats 2000000 in
theorem hk_113 : av_hok ms_113 := ⟨by decide +kernel, rfl, av_mem (i := 779) rfl, av_mem (i := 1) rfl, ⟨by decide +kernel, by decide +kernel⟩, by decide +kernel, Or.inl ⟨rfl, by decide, av_mem (i := 777) rfl, av_mem (i := 778) rfl⟩⟩
set_option maxRecDepth 100000 in
set_option maxHeartbeats 2000000 in
theorem hk_114 : av_hok ms_114 := ⟨by decide +kernel, rfl, av_mem (i := 801) rfl, av_mem (i := 1) rfl, ⟨by decide +kernel, by decide +kernel⟩, by decide +kernel, Or.inl ⟨rfl, by decide, av_mem (i := 799) rfl, av_mem (i := 800) rfl⟩⟩
set_option maxRecDepth 100000 in
set_option maxHeartbeats 2000000 in
theorem hk_115 : av_hok ms_115 := ⟨by decide +kernel, rfl, av_mem (i := 805) rfl, av_mem (i := 1) rfl, ⟨by decide +kernel, by decide +kernel⟩, by decide +kernel, Or.inl ⟨rfl, by decide, av_mem (i := 803) rfl, av_mem (i := 804) rfl⟩⟩
set_option maxRecDepth 100000 in
set_option maxHeartbeats 2000000 in
theorem hk_116 : av_hok ms_116 := ⟨by decide +kernel, rfl, av_mem (i := 824) rfl, av_mem (i := 1) rfl, ⟨by decide +kernel, by decide +kernel⟩, by decide +kernel, Or.inl ⟨rfl, by decide, av_mem (i := 822) rfl, av_mem (i := 823) rfl⟩⟩
set_option maxRecDepth 100000 in
set_option maxHeartbeats 2000000 in
theorem hk_117 : av_hok ms_117 := ⟨by decide +kernel, rfl, av_mem (i := 836) rfl, av_mem (i := 1) rfl, ⟨by decide +kernel, by decide +kernel⟩, by decide +kernel, Or.inl ⟨rfl, by decide, av_mem (i := 834) rfl, av_mem (i := 835) rfl⟩⟩
set_option maxRecDepth 100000 in
set_option maxHeartbeats 2000000 in
theorem hk_118 : av_hok ms_118 := ⟨by decide +kernel, rfl, av_mem (i := 856) rfl, av_mem (i := 1) rfl, ⟨by decide +kernel, by decide +kernel⟩, by decide +kernel, Or.inl ⟨rfl, by decide, av_mem (i := 854) rfl, av_mem (i := 855) rfl⟩⟩
set_option maxRecDepth 100000 in
set_option maxHeartbeats 2000000 in
theorem hk_119 : av_hok ms_119 := ⟨by decide +kernel, rfl, av_mem (i := 839) rfl, av_mem (i := 1) rfl, ⟨by decide +kernel, by decide +kernel⟩, by decide +kernel, Or.inr (Or.inr ⟨rfl, av_mem (i := 838) rfl⟩)⟩
set_option maxRecDepth 100000 in
set_option maxHeartbeats 2000000 in
theorem hk_120 : av_hok ms_120 := ⟨by decide +kernel, rfl, av_mem (i := 864) rfl, av_mem (i := 1) rfl, ⟨by decide +kernel, by decide +kernel⟩, by decide +kernel, Or.inl ⟨rfl, by decide, av_mem (i := 862) rfl, av_mem (i := 863) rfl⟩⟩
set_option maxRecDepth 100000 in
set_option maxHeartbeats 2000000 in
theorem hk_121 : av_hok ms_121 := ⟨by decide +kernel, rfl, av_mem (i := 881) rfl, av_mem (i := 1) rfl, ⟨by decide +kernel, by decide +kernel⟩, by decide +kernel, Or.inl ⟨rfl, by decide, av_mem (i := 879) rfl, av_mem (i := 880) rfl⟩⟩
set_option maxRecDepth 100000 in
set_option maxHeartbeats 2000000 in
theorem hk_122 : av_hok ms_122 := ⟨by decide +kernel, rfl, av_mem (i := 876) rfl, av_mem (i := 1) rfl, ⟨by decide +kernel, by decide +kernel⟩, by decide +kernel, Or.inl ⟨rfl, by decide, av_mem (i := 875) rfl, av_memL (i := 32) rfl⟩⟩
set_option maxRecDepth 100000 in
set_option maxHeartbeats 2000000 in
theorem hk_123 : av_hok ms_123 := ⟨by decide +kernel, rfl, av_mem (i := 890) rfl, av_mem (i := 1) rfl, ⟨by decide +kernel, by decide +kernel⟩, by decide +kernel, Or.inl ⟨rfl, by decide, av_mem (i := 888) rfl, av_mem (i := 889) rfl⟩⟩
set_option maxRecDepth 100000 in
set_option maxHeartbeats 2000000 in
theorem hk_124 : av_hok ms_124 := ⟨by decide +kernel, rfl, av_mem (i := 898) rfl, av_mem (i := 1) rfl, ⟨by decide +kernel, by decide +kernel⟩, by decide +kernel, Or.inl ⟨rfl, by decide, av_mem (i := 896) rfl, av_mem (i := 897) rfl⟩⟩
set_option maxRecDepth 100000 in
set_option maxHeartbeats 2000000 in
theorem hk_125 : av_hok ms_125 := ⟨by decide +kernel, rfl, av_mem (i := 902) rfl, av_mem (i := 1) rfl, ⟨by decide +kernel, by decide +kernel⟩, by decide +kernel, Or.inl ⟨rfl, by decide, av_mem (i := 900) rfl, av_mem (i := 901) rfl⟩⟩
set_option maxRecDepth 100000 in
set_option maxHeartbeats 2000000 in
theorem hk_126 : av_hok ms_126 := ⟨by decide +kernel, rfl, av_mem (i := 912) rfl, av_mem (i := 12) rfl, ⟨by decide +kernel, by decide +kernel⟩, by decide +kernel, Or.inr (Or.inl ⟨rfl, rfl, av_mem (i := 911) rfl, rfl⟩)⟩
set_option maxRecDepth 100000 in
set_option maxHeartbeats 2000000 in
theorem hk_127 : av_hok ms_127 := ⟨by decide +kernel, rfl, av_mem (i := 1127) rfl, av_mem (i := 12) rfl, ⟨by decide +kernel, by decide +kernel⟩, by decide +kernel, Or.inr (Or.inr ⟨rfl, av_mem (i := 1126) rfl⟩)⟩
set_option maxRecDepth 100000 in
set_option maxHeartbeats 2000000 in
theorem hk_128 : av_hok ms_128 := ⟨by decide +kernel, rfl, av_mem (i := 1107) rfl, av_mem (i := 12) rfl, ⟨by decide +kernel, by decide +kernel⟩, by decide +kernel, Or.inl ⟨rfl, by decide, av_mem (i := 1105) rfl, av_mem (i := 1106) rfl⟩⟩
set_option maxRecDepth 100000 in
set_option maxHeartbeats 2000000 in
theorem hk_129 : av_hok ms_129 := ⟨by decide +kernel, rfl, av_mem (i := 1123) rfl, av_mem (i := 12) rfl, ⟨by decide +kernel, by decide +kernel⟩, by decide +kernel, Or.inl ⟨rfl, by decide, av_mem (i := 1122) rfl, av_memL (i := 35) rfl⟩⟩
set_option maxRecDepth 100000 in
set_option maxHeartbeats 2000000 in
theorem hk_130 : av_hok ms_130 := ⟨by decide +kernel, rfl, av_mem (i := 1119) rfl, av_mem (i := 12) rfl, ⟨by decide +kernel, by decide +kernel⟩, by decide +kernel, Or.inl ⟨rfl, by decide, av_mem (i := 1118) rfl, av_memL (i := 34) rfl⟩⟩
set_option maxRecDepth 100000 in
set_option maxHeartbeats 2000000 in
theorem hk_131 : av_hok ms_131 := ⟨by decide +kernel, rfl, av_mem (i := 1137) rfl, av_mem (i := 12) rfl, ⟨by decide +kernel, by decide +kernel⟩, by decide +kernel, Or.inl ⟨rfl, by decide, av_mem (i := 1136) rfl, av_memL (i := 37) rfl⟩⟩
set_option maxRecDepth 100000 in
set_option maxHeartbeats 2000000 in
theorem hk_132 : av_hok ms_132 := ⟨by decide +kernel, rfl, av_mem (i := 1187) rfl, av_mem (i := 12) rfl, ⟨by decide +kernel, by decide +kernel⟩, by decide +kernel, Or.inl ⟨rfl, by decide, av_mem (i := 1186) rfl, av_memL (i := 46) rfl⟩⟩
set_option maxRecDepth 100000 in
set_option maxHeartbeats 2000000 in
theorem hk_133 : av_hok ms_133 := ⟨by decide +kernel, rfl, av_mem (i := 1205) rfl, av_mem (i := 12) rfl, ⟨by decide +kernel, by decide +kernel⟩, by decide +kernel, Or.inl ⟨rfl, by decide, av_mem (i := 1204) rfl, av_memL (i := 49) rfl⟩⟩
set_option maxRecDepth 100000 in
set_option maxHeartbeats 2000000 in
theorem hk_134 : av_hok ms_134 := ⟨by decide +kernel, rfl, av_mem (i := 1182) rfl, av_mem (i := 12) rfl, ⟨by decide +kernel, by decide +kernel⟩, by decide +kernel, Or.inl ⟨rfl, by decide, av_mem (i := 1181) rfl, av_memL (i := 45) rfl⟩⟩
set_option maxRecDepth 100000 in
set_option maxHeartbeats 2000000 in
theorem hk_135 : av_hok ms_135 := ⟨by decide +kernel, rfl, av_mem (i := 1217) rfl, av_mem (i := 12) rfl, ⟨by decide +kernel, by decide +kernel⟩, by decide +kernel, Or.inl ⟨rfl, by decide, av_mem (i := 1216) rfl, av_memL (i := 51) rfl⟩⟩
set_option maxRecDepth 100000 in
set_option maxHeartbeats 2000000 in
theorem hk_136 : av_hok ms_136 := ⟨by decide +kernel, rfl, av_mem (i := 1115) rfl, av_mem (i := 12) rfl, ⟨by decide +kernel, by decide +kernel⟩, by decide +kernel, Or.inl ⟨rfl, by decide, av_mem (i := 1114) rfl, av_memL (i := 33) rfl⟩⟩
set_option maxRecDepth 100000 in
set_option maxHeartbeats 2000000 in
theorem hk_137 : av_hok ms_137 := ⟨by decide +kernel, rfl, av_mem (i := 1156) rfl, av_mem (i := 12) rfl, ⟨by decide +kernel, by decide +kernel⟩, by decide +kernel, Or.inl ⟨rfl, by decide, av_mem (i := 1155) rfl, av_memL (i := 40) rfl⟩⟩
set_option maxRecDepth 100000 in
set_option maxHeartbeats 2000000 in
theorem hk_138 : av_hok ms_138 := ⟨by decide +kernel, rfl, av_mem (i := 1173) rfl, av_mem (i := 12) rfl, ⟨by decide +kernel, by decide +kernel⟩, by decide +kernel, Or.inl ⟨rfl, by decide, av_mem (i := 1172) rfl, av_memL (i := 44) rfl⟩⟩
set_option maxRecDepth 100000 in
set_option maxHeartbeats 2000000 in
theorem hk_139 : av_hok ms_139 := ⟨by decide +kernel, rfl, av_mem (i := 1145) rfl, av_mem (i := 12) rfl, ⟨by decide +kernel, by decide +kernel⟩, by decide +kernel, Or.inl ⟨rfl, by decide, av_mem (i := 1144) rfl, av_memL (i := 39) rfl⟩⟩
set_option maxRecDepth 100000 in
set_option maxHeartbeats 2000000 in
theorem hk_140 : av_hok ms_140 := ⟨by decide +kernel, rfl, av_mem (i := 1197) rfl, av_mem (i := 12) rfl, ⟨by decide +kernel, by decide +kernel⟩, by decide +kernel, Or.inl ⟨rfl, by decide, av_mem (i := 1196) rfl, av_memL (i := 48) rfl⟩⟩
set_option maxRecDepth 100000 in
set_option maxHeartbeats 2000000 in
theorem hk_141 : av_hok ms_141 := ⟨by decide +kernel, rfl, av_mem (i := 1169) rfl, av_mem (i := 12) rfl, ⟨by decide +kernel, by decide +kernel⟩, by decide +kernel, Or.inl ⟨rfl, by decide, av_mem (i := 1168) rfl, av_memL (i := 43) rfl⟩⟩
set_option maxRecDepth 100000 in
set_option maxHeartbeats 2000000 in
theorem hk_142 : av_hok ms_142 := ⟨by decide +kernel, rfl, av_mem (i := 1209) rfl, av_mem (i := 12) rfl, ⟨by decide +kernel, by decide +kernel⟩, by decide +kernel, Or.inl ⟨rfl, by decide, av_mem (i := 1208) rfl, av_memL (i := 50) rfl⟩⟩
set_option maxRecDepth 100000 in
set_option maxHeartbeats 2000000 in
theorem hk_143 : av_hok ms_143 := ⟨by decide +kernel, rfl, av_mem (i := 1193) rfl, av_mem (i := 12) rfl, ⟨by decide +kernel, by decide +kernel⟩, by decide +kernel, Or.inl ⟨rfl, by decide, av_mem (i := 1192) rfl, av_memL (i := 47) rfl⟩⟩
set_option maxRecDepth 100000 in
set_option maxHeartbeats 2000000 in
theorem hk_144 : av_hok ms_144 := ⟨by decide +kernel, rfl, av_mem (i := 1165) rfl, av_mem (i := 12) rfl, ⟨by decide +kernel, by decide +kernel⟩, by decide +kernel, Or.inl ⟨rfl, by decide, av_mem (i := 1164) rfl, av_memL (i := 42) rfl⟩⟩
set_option maxRecDepth 100000 in
set_option maxHeartbeats 2000000 in
theorem hk_145 : av_hok ms_145 := ⟨by decide +kernel, rfl, av_mem (i := 1161) rfl, av_mem (i := 12) rfl, ⟨by decide +kernel, by decide +kernel⟩, by decide +kernel, Or.inl ⟨rfl, by decide, av_mem (i := 1160) rfl, av_memL (i := 41) rfl⟩⟩
set_option maxRecDepth 100000 in
set_option maxHeartbeats 2000000 in
theorem hk_146 : av_hok ms_146 := ⟨by decide +kernel, rfl, av_mem (i := 1141) rfl, av_mem (i := 12) rfl, ⟨by decide +kernel, by decide +kernel⟩, by decide +kernel, Or.inl ⟨rfl, by decide, av_mem (i := 1140) rfl, av_memL (i := 38) rfl⟩⟩
set_option maxRecDepth 100000 in
set_option maxHeartbeats 2000000 in
theorem hk_147 : av_hok ms_147 := ⟨by decide +kernel, rfl, av_mem (i := 1133) rfl, av_mem (i := 12) rfl, ⟨by decide +kernel, by decide +kernel⟩, by decide +kernel, Or.inl ⟨rfl, by decide, av_mem (i := 1132) rfl, av_memL (i := 36) rfl⟩⟩
set_option maxRecDepth 100000 in
set_option maxHeartbeats 2000000 in
theorem hk_148 : av_hok ms_148 := ⟨by decide +kernel, rfl, av_mem (i := 1111) rfl, av_mem (i := 12) rfl, ⟨by decide +kernel, by decide +kernel⟩, by decide +kernel, Or.inl ⟨rfl, by decide, av_mem (i := 1109) rfl, av_mem (i := 1110) rfl⟩⟩
set_option maxRecDepth 100000 in
set_option maxHeartbeats 2000000 in
theorem hk_149 : av_hok ms_149 := ⟨by decide +kernel, rfl, av_mem (i := 1225) rfl, av_mem (i := 12) rfl, ⟨by decide +kernel, by decide +kernel⟩, by decide +kernel, Or.inl ⟨rfl, by decide, av_mem (i := 1224) rfl, av_memL (i := 52) rfl⟩⟩
set_option maxRecDepth 100000 in
set_option maxHeartbeats 2000000 in
theorem hk_150 : av_hok ms_150 := ⟨by decide +kernel, rfl, av_mem (i := 1276) rfl, av_mem (i := 12) rfl, ⟨by decide +kernel, by decide +kernel⟩, by decide +kernel, Or.inl ⟨rfl, by decide, av_mem (i := 1275) rfl, av_memL (i := 57) rfl⟩⟩
set_option maxRecDepth 100000 in
set_option maxHeartbeats 2000000 in
theorem hk_151 : av_hok ms_151 := ⟨by decide +kernel, rfl, av_mem (i := 1221) rfl, av_mem (i := 12) rfl, ⟨by decide +kernel, by decide +kernel⟩, by decide +kernel, Or.inl ⟨rfl, by decide, av_mem (i := 1219) rfl, av_mem (i := 1220) rfl⟩⟩
set_option maxRecDepth 100000 in
set_option maxHeartbeats 2000000 in
theorem hk_152 : av_hok ms_152 := ⟨by decide +kernel, rfl, av_mem (i := 1246) rfl, av_mem (i := 12) rfl, ⟨by decide +kernel, by decide +kernel⟩, by decide +kernel, Or.inl ⟨rfl, by decide, av_mem (i := 1245) rfl, av_memL (i := 56) rfl⟩⟩
set_option maxRecDepth 100000 in
set_option maxHeartbeats 2000000 in
theorem hk_153 : av_hok ms_153 := ⟨by decide +kernel, rfl, av_mem (i := 1242) rfl, av_mem (i := 12) rfl, ⟨by decide +kernel, by decide +kernel⟩, by decide +kernel, Or.inl ⟨rfl, by decide, av_mem (i := 1241) rfl, av_memL (i := 55) rfl⟩⟩
set_option maxRecDepth 100000 in
set_option maxHeartbeats 2000000 in
theorem hk_154 : av_hok ms_154 := ⟨by decide +kernel, rfl, av_mem (i := 1237) rfl, av_mem (i := 12) rfl, ⟨by decide +kernel, by decide +kernel⟩, by decide +kernel, Or.inl ⟨rfl, by decide, av_mem (i := 1236) rfl, av_memL (i := 54) rfl⟩⟩
set_option maxRecDepth 100000 in
set_option maxHeartbeats 2000000 in
theorem hk_155 : av_hok ms_155 := ⟨by decide +kernel, rfl, av_mem (i := 1233) rfl, av_mem (i := 12) rfl, ⟨by decide +kernel, by decide +kernel⟩, by decide +kernel, Or.inl ⟨rfl, by decide, av_mem (i := 1232) rfl, av_memL (i := 53) rfl⟩⟩
set_option maxRecDepth 100000 in
set_option maxHeartbeats 2000000 in
theorem hk_156 : av_hok ms_156 := ⟨by decide +kernel, rfl, av_mem (i := 1229) rfl, av_mem (i := 12) rfl, ⟨by decide +kernel, by decide +kernel⟩, by decide +kernel, Or.inl ⟨rfl, by decide, av_mem (i := 1227) rfl, av_mem (i := 1228) rfl⟩⟩
set_option maxRecDepth 100000 in
set_option maxHeartbeats 2000000 in
theorem hk_157 : av_hok ms_157 := ⟨by decide +kernel, rfl, av_mem (i := 1264) rfl, av_mem (i := 12) rfl, ⟨by decide +kernel, by decide +kernel⟩, by decide +kernel, Or.inl ⟨rfl, by decide, av_mem (i := 1262) rfl, av_mem (i := 1263) rfl⟩⟩
set_option maxRecDepth 100000 in
set_option maxHeartbeats 2000000 in
theorem hk_158 : av_hok ms_158 := ⟨by decide +kernel, rfl, av_mem (i := 1268) rfl, av_mem (i := 12) rfl, ⟨by decide +kernel, by decide +kernel⟩, by decide +kernel, Or.inl ⟨rfl, by decide, av_mem (i := 1266) rfl, av_mem (i := 1267) rfl⟩⟩
set_option maxRecDepth 100000 in
set_option maxHeartbeats 2000000 in
theorem hk_159 : av_hok ms_159 := ⟨by decide +kernel, rfl, av_mem (i := 1280) rfl, av_mem (i := 12) rfl, ⟨by decide +kernel, by decide +kernel⟩, by decide +kernel, Or.inl ⟨rfl, by decide, av_mem (i := 1279) rfl, av_memL (i := 58) rfl⟩⟩
set_option maxRecDepth 100000 in
set_option maxHeartbeats 2000000 in
theorem hk_160 : av_hok ms_160 := ⟨by decide +kernel, rfl, av_mem (i := 1272) rfl, av_mem (i := 12) rfl, ⟨by decide +kernel, by decide +kernel⟩, by decide +kernel, Or.inl ⟨rfl, by decide, av_mem (i := 1270) rfl, av_mem (i := 1271) rfl⟩⟩
set_option maxRecDepth 100000 in
set_option maxHeartbeats 2000000 in
theorem hk_161 : av_hok ms_161 := ⟨by decide +kernel, rfl, av_mem (i := 1284) rfl, av_mem (i := 12) rfl, ⟨by decide +kernel, by decide +kernel⟩, by decide +kernel, Or.inl ⟨rfl, by decide, av_mem (i := 1282) rfl, av_mem (i := 1283) rfl⟩⟩
set_option maxRecDepth 100000 in
set_option maxHeartbeats 2000000 in
theorem hk_162 : av_hok ms_162 := ⟨by decide +kernel, rfl, av_mem (i := 1296) rfl, av_mem (i := 12) rfl, ⟨by decide +kernel, by decide +kernel⟩, by decide +kernel, Or.inl ⟨rfl, by decide, av_mem (i := 1295) rfl, av_memL (i := 60) rfl⟩⟩
set_option maxRecDepth 100000 in
set_option maxHeartbeats 2000000 in
theorem hk_163 : av_hok ms_163 := ⟨by decide +kernel, rfl, av_mem (i := 1300) rfl, av_mem (i := 12) rfl, ⟨by decide +kernel, by decide +kernel⟩, by decide +kernel, Or.inl ⟨rfl, by decide, av_mem (i := 1299) rfl, av_memL (i := 61) rfl⟩⟩
set_option maxRecDepth 100000 in
set_option maxHeartbeats 2000000 in
theorem hk_164 : av_hok ms_164 := ⟨by decide +kernel, rfl, av_mem (i := 1304) rfl, av_mem (i := 12) rfl, ⟨by decide +kernel, by decide +kernel⟩, by decide +kernel, Or.inl ⟨rfl, by decide, av_mem (i := 1303) rfl, av_memL (i := 62) rfl⟩⟩
set_option maxRecDepth 100000 in
set_option maxHeartbeats 2000000 in
theorem hk_165 : av_hok ms_165 := ⟨by decide +kernel, rfl, av_mem (i := 1312) rfl, av_mem (i := 12) rfl, ⟨by decide +kernel, by decide +kernel⟩, by decide +kernel, Or.inl ⟨rfl, by decide, av_mem (i := 1311) rfl, av_memL (i := 63) rfl⟩⟩
set_option maxRecDepth 100000 in
set_option maxHeartbeats 2000000 in
theorem hk_166 : av_hok ms_166 := ⟨by decide +kernel, rfl, av_mem (i := 1316) rfl, av_mem (i := 12) rfl, ⟨by decide +kernel, by decide +kernel⟩, by decide +kernel, Or.inl ⟨rfl, by decide, av_mem (i := 1315) rfl, av_memL (i := 64) rfl⟩⟩
set_option maxRecDepth 100000 in
set_option maxHeartbeats 2000000 in
theorem hk_167 : av_hok ms_167 := ⟨by decide +kernel, rfl, av_mem (i := 1348) rfl, av_mem (i := 12) rfl, ⟨by decide +kernel, by decide +kernel⟩, by decide +kernel, Or.inl ⟨rfl, by decide, av_mem (i := 1347) rfl, av_memL (i := 71) rfl⟩⟩
set_option maxRecDepth 100000 in
set_option maxHeartbeats 2000000 in
theorem hk_168 : av_hok ms_168 := ⟨by decide +kernel, rfl, av_mem (i := 1344) rfl, av_mem (i := 12) rfl, ⟨by decide +kernel, by decide +kernel⟩, by decide +kernel, Or.inl ⟨rfl, by decide, av_mem (i := 1343) rfl, av_memL (i := 70) rfl⟩⟩
set_option maxRecDepth 100000 in
set_option maxHeartbeats 2000000 in
theorem hk_169 : av_hok ms_169 := ⟨by decide +kernel, rfl, av_mem (i := 1364) rfl, av_mem (i := 12) rfl, ⟨by decide +kernel, by decide +kernel⟩, by decide +kernel, Or.inl ⟨rfl, by decide, av_mem (i := 1363) rfl, av_memL (i := 75) rfl⟩⟩
set_option maxRecDepth 100000 in
set_option maxHeartbeats 2000000 in
theorem hk_170 : av_hok ms_170 := ⟨by decide +kernel, rfl, av_mem (i := 1372) rfl, av_mem (i := 12) rfl, ⟨by decide +kernel, by decide +kernel⟩, by decide +kernel, Or.inl ⟨rfl, by decide, av_mem (i := 1371) rfl, av_memL (i := 77) rfl⟩⟩
set_option maxRecDepth 100000 in
set_option maxHeartbeats 2000000 in
theorem hk_171 : av_hok ms_171 := ⟨by decide +kernel, rfl, av_mem (i := 1352) rfl, av_mem (i := 12) rfl, ⟨by decide +kernel, by decide +kernel⟩, by decide +kernel, Or.inl ⟨rfl, by decide, av_mem (i := 1351) rfl, av_memL (i := 72) rfl⟩⟩
set_option maxRecDepth 100000 in
set_option maxHeartbeats 2000000 in
theorem hk_172 : av_hok ms_172 := ⟨by decide +kernel, rfl, av_mem (i := 1360) rfl, av_mem (i := 12) rfl, ⟨by decide +kernel, by decide +kernel⟩, by decide +kernel, Or.inl ⟨rfl, by decide, av_mem (i := 1359) rfl, av_memL (i := 74) rfl⟩⟩
set_option maxRecDepth 100000 in
set_option maxHeartbeats 2000000 in
theorem hk_173 : av_hok ms_173 := ⟨by decide +kernel, rfl, av_mem (i := 1356) rfl, av_mem (i := 12) rfl, ⟨by decide +kernel, by decide +kernel⟩, by decide +kernel, Or.inl ⟨rfl, by decide, av_mem (i := 1355) rfl, av_memL (i := 73) rfl⟩⟩
set_option maxRecDepth 100000 in
set_option maxHeartbeats 2000000 in
theorem hk_174 : av_hok ms_174 := ⟨by decide +kernel, rfl, av_mem (i := 1340) rfl, av_mem (i := 12) rfl, ⟨by decide +kernel, by decide +kernel⟩, by decide +kernel, Or.inl ⟨rfl, by decide, av_mem (i := 1339) rfl, av_memL (i := 69) rfl⟩⟩
set_option maxRecDepth 100000 in
set_option maxHeartbeats 2000000 in
theorem hk_175 : av_hok ms_175 := ⟨by decide +kernel, rfl, av_mem (i := 1384) rfl, av_mem (i := 12) rfl, ⟨by decide +kernel, by decide +kernel⟩, by decide +kernel, Or.inl ⟨rfl, by decide, av_mem (i := 1383) rfl, av_memL (i := 80) rfl⟩⟩
set_option maxRecDepth 100000 in
set_option maxHeartbeats 2000000 in
theorem hk_176 : av_hok ms_176 := ⟨by decide +kernel, rfl, av_mem (i := 1376) rfl, av_mem (i := 12) rfl, ⟨by decide +kernel, by decide +kernel⟩, by decide +kernel, Or.inl ⟨rfl, by decide, av_mem (i := 1375) rfl, av_memL (i := 78) rfl⟩⟩
set_option maxRecDepth 100000 in
set_option maxHeartbeats 2000000 in
theorem hk_177 : av_hok ms_177 := ⟨by decide +kernel, rfl, av_mem (i := 1380) rfl, av_mem (i := 12) rfl, ⟨by decide +kernel, by decide +kernel⟩, by decide +kernel, Or.inl ⟨rfl, by decide, av_mem (i := 1379) rfl, av_memL (i := 79) rfl⟩⟩
set_option maxRecDepth 100000 in
set_option maxHeartbeats 2000000 in
theorem hk_178 : av_hok ms_178 := ⟨by decide +kernel, rfl, av_mem (i := 1388) rfl, av_mem (i := 12) rfl, ⟨by decide +kernel, by decide +kernel⟩, by decide +kernel, Or.inl ⟨rfl, by decide, av_mem (i := 1387) rfl, av_memL (i := 81) rfl⟩⟩
set_option maxRecDepth 100000 in
set_option maxHeartbeats 2000000 in
theorem hk_179 : av_hok ms_179 := ⟨by decide +kernel, rfl, av_mem (i := 1392) rfl, av_mem (i := 12) rfl, ⟨by decide +kernel, by decide +kernel⟩, by decide +kernel, Or.inl ⟨rfl, by decide, av_mem (i := 1391) rfl, av_memL (i := 82) rfl⟩⟩
set_option maxRecDepth 100000 in
set_option maxHeartbeats 2000000 in
theorem hk_180 : av_hok ms_180 := ⟨by decide +kernel, rfl, av_mem (i := 1368) rfl, av_mem (i := 12) rfl, ⟨by decide +kernel, by decide +kernel⟩, by decide +kernel, Or.inl ⟨rfl, by decide, av_mem (i := 1367) rfl, av_memL (i := 76) rfl⟩⟩
set_option maxRecDepth 100000 in
set_option maxHeartbeats 2000000 in
theorem hk_181 : av_hok ms_181 := ⟨by decide +kernel, rfl, av_mem (i := 1336) rfl, av_mem (i := 12) rfl, ⟨by decide +kernel, by decide +kernel⟩, by decide +kernel, Or.inl ⟨rfl, by decide, av_mem (i := 1335) rfl, av_memL (i := 68) rfl⟩⟩
set_option maxRecDepth 100000 in
set_option maxHeartbeats 2000000 in
theorem hk_182 : av_hok ms_182 := ⟨by decide +kernel, rfl, av_mem (i := 1400) rfl, av_mem (i := 12) rfl, ⟨by decide +kernel, by decide +kernel⟩, by decide +kernel, Or.inl ⟨rfl, by decide, av_mem (i := 1399) rfl, av_memL (i := 84) rfl⟩⟩
set_option maxRecDepth 100000 in
set_option maxHeartbeats 2000000 in
theorem hk_183 : av_hok ms_183 := ⟨by decide +kernel, rfl, av_mem (i := 1396) rfl, av_mem (i := 12) rfl, ⟨by decide +kernel, by decide +kernel⟩, by decide +kernel, Or.inl ⟨rfl, by decide, av_mem (i := 1395) rfl, av_memL (i := 83) rfl⟩⟩
set_option maxRecDepth 100000 in
set_option maxHeartbeats 2000000 in
theorem hk_184 : av_hok ms_184 := ⟨by decide +kernel, rfl, av_mem (i := 1332) rfl, av_mem (i := 12) rfl, ⟨by decide +kernel, by decide +kernel⟩, by decide +kernel, Or.inl ⟨rfl, by decide, av_mem (i := 1331) rfl, av_memL (i := 67) rfl⟩⟩
set_option maxRecDepth 100000 in
set_option maxHeartbeats 2000000 in
theorem hk_185 : av_hok ms_185 := ⟨by decide +kernel, rfl, av_mem (i := 1328) rfl, av_mem (i := 12) rfl, ⟨by decide +kernel, by decide +kernel⟩, by decide +kernel, Or.inl ⟨rfl, by decide, av_mem (i := 1327) rfl, av_memL (i := 66) rfl⟩⟩
set_option maxRecDepth 100000 in
set_option maxHeartbeats 2000000 in
theorem hk_186 : av_hok ms_186 := ⟨by decide +kernel, rfl, av_mem (i := 1324) rfl, av_mem (i := 12) rfl, ⟨by decide +kernel, by decide +kernel⟩, by decide +kernel, Or.inl ⟨rfl, by decide, av_mem (i := 1323) rfl, av_memL (i := 65) rfl⟩⟩
set_option maxRecDepth 100000 in
set_option maxHeartbeats 2000000 in
theorem hk_187 : av_hok ms_187 := ⟨by decide +kernel, rfl, av_mem (i := 1288) rfl, av_mem (i := 12) rfl, ⟨by decide +kernel, by decide +kernel⟩, by decide +kernel, Or.inl ⟨rfl, by decide, av_mem (i := 1286) rfl, av_mem (i := 1287) rfl⟩⟩
set_option maxRecDepth 100000 in
set_option maxHeartbeats 2000000 in
theorem hk_188 : av_hok ms_188 := ⟨by decide +kernel, rfl, av_mem (i := 1292) rfl, av_mem (i := 12) rfl, ⟨by decide +kernel, by decide +kernel⟩, by decide +kernel, Or.inl ⟨rfl, by decide, av_mem (i := 1291) rfl, av_memL (i := 59) rfl⟩⟩
set_option maxRecDepth 100000 in
set_option maxHeartbeats 2000000 in
theorem hk_189 : av_hok ms_189 := ⟨by decide +kernel, rfl, av_mem (i := 1308) rfl, av_mem (i := 12) rfl, ⟨by decide +kernel, by decide +kernel⟩, by decide +kernel, Or.inl ⟨rfl, by decide, av_mem (i := 1306) rfl, av_mem (i := 1307) rfl⟩⟩
set_option maxRecDepth 100000 in
set_option maxHeartbeats 2000000 in
theorem hk_190 : av_hok ms_190 := ⟨by decide +kernel, rfl, av_mem (i := 1320) rfl, av_mem (i := 12) rfl, ⟨by decide +kernel, by decide +kernel⟩, by decide +kernel, Or.inl ⟨rfl, by decide, av_mem (i := 1318) rfl, av_mem (i := 1319) rfl⟩⟩
set_option maxRecDepth 100000 in
set_option maxHeartbeats 2000000 in
theorem hk_191 : av_hok ms_191 := ⟨by decide +kernel, rfl, av_mem (i := 1404) rfl, av_mem (i := 12) rfl, ⟨by decide +kernel, by decide +kernel⟩, by decide +kernel, Or.inl ⟨rfl, by decide, av_mem (i := 1402) rfl, av_mem (i := 1403) rfl⟩⟩
set_option maxRecDepth 100000 in
set_option maxHeartbeats 2000000 in
theorem hk_192 : av_hok ms_192 := ⟨by decide +kernel, rfl, av_mem (i := 1408) rfl, av_mem (i := 12) rfl, ⟨by decide +kernel, by decide +kernel⟩, by decide +kernel, Or.inl ⟨rfl, by decide, av_mem (i := 1406) rfl, av_mem (i := 1407) rfl⟩⟩
set_option maxRecDepth 100000 in
set_option maxHeartbeats 2000000 in
theorem hk_193 : av_hok ms_193 := ⟨by decide +kernel, rfl, av_mem (i := 1412) rfl, av_mem (i := 12) rfl, ⟨by decide +kernel, by decide +kernel⟩, by decide +kernel, Or.inl ⟨rfl, by decide, av_mem (i := 1410) rfl, av_mem (i := 1411) rfl⟩⟩
set_option maxRecDepth 100000 in
set_option maxHeartbeats 2000000 in
theorem hk_194 : av_hok ms_194 := ⟨by decide +kernel, rfl, av_mem (i := 1419) rfl, av_mem (i := 12) rfl, ⟨by decide +kernel, by decide +kernel⟩, by decide +kernel, Or.inr (Or.inr ⟨rfl, av_mem (i := 1418) rfl⟩)⟩
set_option maxRecDepth 100000 in
set_option maxHeartbeats 2000000 in
theorem hk_195 : av_hok ms_195 := ⟨by decide +kernel, rfl, av_mem (i := 1427) rfl, av_mem (i := 12) rfl, ⟨by decide +kernel, by decide +kernel⟩, by decide +kernel, Or.inl ⟨rfl, by decide, av_mem (i := 1426) rfl, av_memL (i := 86) rfl⟩⟩
set_option maxRecDepth 100000 in
set_option maxHeartbeats 2000000 in
theorem hk_196 : av_hok ms_196 := ⟨by decide +kernel, rfl, av_mem (i := 1423) rfl, av_mem (i := 12) rfl, ⟨by decide +kernel, by decide +kernel⟩, by decide +kernel, Or.inl ⟨rfl, by decide, av_mem (i := 1422) rfl, av_memL (i := 85) rfl⟩⟩
set_option maxRecDepth 100000 in
set_option maxHeartbeats 2000000 in
theorem hk_197 : av_hok ms_197 := ⟨by decide +kernel, rfl, av_mem (i := 1416) rfl, av_mem (i := 12) rfl, ⟨by decide +kernel, by decide +kernel⟩, by decide +kernel, Or.inl ⟨rfl, by decide, av_mem (i := 1414) rfl, av_mem (i := 1415) rfl⟩⟩
set_option maxRecDepth 100000 in
set_option maxHeartbeats 2000000 in
theorem hk_198 : av_hok ms_198 := ⟨by decide +kernel, rfl, av_mem (i := 1431) rfl, av_mem (i := 12) rfl, ⟨by decide +kernel, by decide +kernel⟩, by decide +kernel, Or.inl ⟨rfl, by decide, av_mem (i := 1429) rfl, av_mem (i := 1430) rfl⟩⟩
set_option maxRecDepth 100000 in
set_option maxHeartbeats 2000000 in
theorem hk_199 : av_hok ms_199 := ⟨by decide +kernel, rfl, av_mem (i := 1435) rfl, av_mem (i := 12) rfl, ⟨by decide +kernel, by decide +kernel⟩, by decide +kernel, Or.inl ⟨rfl, by decide, av_mem (i := 1433) rfl, av_mem (i := 1434) rfl⟩⟩
set_option maxRecDepth 100000 in
set_option maxHeartbeats 2000000 in
theorem hk_200 : av_hok ms_200 := ⟨by decide +kernel, rfl, av_mem (i := 1443) rfl, av_mem (i := 12) rfl, ⟨by decide +kernel, by decide +kernel⟩, by decide +kernel, Or.inl ⟨rfl, by decide, av_mem (i := 1442) rfl, av_memL (i := 87) rfl⟩⟩
set_option maxRecDepth 100000 in
set_option maxHeartbeats 2000000 in
theorem hk_201 : av_hok ms_201 := ⟨by decide +kernel, rfl, av_mem (i := 1439) rfl, av_mem (i := 12) rfl, ⟨by decide +kernel, by decide +kernel⟩, by decide +kernel, Or.inl ⟨rfl, by decide, av_mem (i := 1437) rfl, av_mem (i := 1438) rfl⟩⟩
set_option maxRecDepth 100000 in
set_option maxHeartbeats 2000000 in
theorem hk_202 : av_hok ms_202 := ⟨by decide +kernel, rfl, av_mem (i := 1447) rfl, av_mem (i := 12) rfl, ⟨by decide +kernel, by decide +kernel⟩, by decide +kernel, Or.inl ⟨rfl, by decide, av_mem (i := 1445) rfl, av_mem (i := 1446) rfl⟩⟩
set_option maxRecDepth 100000 in
set_option maxHeartbeats 2000000 in
theorem hk_203 : av_hok ms_203 := ⟨by decide +kernel, rfl, av_mem (i := 1455) rfl, av_mem (i := 12) rfl, ⟨by decide +kernel, by decide +kernel⟩, by decide +kernel, Or.inl ⟨rfl, by decide, av_mem (i := 1454) rfl, av_memL (i := 88) rfl⟩⟩
set_option maxRecDepth 100000 in
set_option maxHeartbeats 2000000 in
theorem hk_204 : av_hok ms_204 := ⟨by decide +kernel, rfl, av_mem (i := 1451) rfl, av_mem (i := 12) rfl, ⟨by decide +kernel, by decide +kernel⟩, by decide +kernel, Or.inl ⟨rfl, by decide, av_mem (i := 1449) rfl, av_mem (i := 1450) rfl⟩⟩
set_option maxRecDepth 100000 in
set_option maxHeartbeats 2000000 in
theorem hk_205 : av_hok ms_205 := ⟨by decide +kernel, rfl, av_mem (i := 1459) rfl, av_mem (i := 12) rfl, ⟨by decide +kernel, by decide +kernel⟩, by decide +kernel, Or.inl ⟨rfl, by decide, av_mem (i := 1457) rfl, av_mem (i := 1458) rfl⟩⟩
set_option maxRecDepth 100000 in
set_option maxHeartbeats 2000000 in
theorem hk_206 : av_hok ms_206 := ⟨by decide +kernel, rfl, av_mem (i := 1467) rfl, av_mem (i := 12) rfl, ⟨by decide +kernel, by decide +kernel⟩, by decide +kernel, Or.inl ⟨rfl, by decide, av_mem (i := 1466) rfl, av_memL (i := 89) rfl⟩⟩
set_option maxRecDepth 100000 in
set_option maxHeartbeats 2000000 in
theorem hk_207 : av_hok ms_207 := ⟨by decide +kernel, rfl, av_mem (i := 1463) rfl, av_mem (i := 12) rfl, ⟨by decide +kernel, by decide +kernel⟩, by decide +kernel, Or.inl ⟨rfl, by decide, av_mem (i := 1461) rfl, av_mem (i := 1462) rfl⟩⟩
set_option maxRecDepth 100000 in
set_option maxHeartbeats 2000000 in
theorem hk_208 : av_hok ms_208 := ⟨by decide +kernel, rfl, av_mem (i := 1471) rfl, av_mem (i := 12) rfl, ⟨by decide +kernel, by decide +kernel⟩, by decide +kernel, Or.inl ⟨rfl, by decide, av_mem (i := 1469) rfl, av_mem (i := 1470) rfl⟩⟩
set_option maxRecDepth 100000 in
set_option maxHeartbeats 2000000 in
theorem hk_209 : av_hok ms_209 := ⟨by decide +kernel, rfl, av_mem (i := 1483) rfl, av_mem (i := 12) rfl, ⟨by decide +kernel, by decide +kernel⟩, by decide +kernel, Or.inl ⟨rfl, by decide, av_mem (i := 1482) rfl, av_memL (i := 91) rfl⟩⟩
set_option maxRecDepth 100000 in
set_option maxHeartbeats 2000000 in
theorem hk_210 : av_hok ms_210 := ⟨by decide +kernel, rfl, av_mem (i := 1479) rfl, av_mem (i := 12) rfl, ⟨by decide +kernel, by decide +kernel⟩, by decide +kernel, Or.inl ⟨rfl, by decide, av_mem (i := 1478) rfl, av_memL (i := 90) rfl⟩⟩
set_option maxRecDepth 100000 in
set_option maxHeartbeats 2000000 in
theorem hk_211 : av_hok ms_211 := ⟨by decide +kernel, rfl, av_mem (i := 1475) rfl, av_mem (i := 12) rfl, ⟨by decide +kernel, by decide +kernel⟩, by decide +kernel, Or.inl ⟨rfl, by decide, av_mem (i := 1473) rfl, av_mem (i := 1474) rfl⟩⟩
set_option maxRecDepth 100000 in
set_option maxHeartbeats 2000000 in
theorem hk_212 : av_hok ms_212 := ⟨by decide +kernel, rfl, av_mem (i := 1487) rfl, av_mem (i := 12) rfl, ⟨by decide +kernel, by decide +kernel⟩, by decide +kernel, Or.inl ⟨rfl, by decide, av_mem (i := 1485) rfl, av_mem (i := 1486) rfl⟩⟩
set_option maxRecDepth 100000 in
set_option maxHeartbeats 2000000 in
theorem hk_213 : av_hok ms_213 := ⟨by decide +kernel, rfl, av_mem (i := 1495) rfl, av_mem (i := 12) rfl, ⟨by decide +kernel, by decide +kernel⟩, by decide +kernel, Or.inl ⟨rfl, by decide, av_mem (i := 1494) rfl, av_memL (i := 92) rfl⟩⟩
set_option maxRecDepth 100000 in
set_option maxHeartbeats 2000000 in
theorem hk_214 : av_hok ms_214 := ⟨by decide +kernel, rfl, av_mem (i := 1491) rfl, av_mem (i := 12) rfl, ⟨by decide +kernel, by decide +kernel⟩, by decide +kernel, Or.inl ⟨rfl, by decide, av_mem (i := 1489) rfl, av_mem (i := 1490) rfl⟩⟩
set_option maxRecDepth 100000 in
set_option maxHeartbeats 2000000 in
theorem hk_215 : av_hok ms_215 := ⟨by decide +kernel, rfl, av_mem (i := 1499) rfl, av_mem (i := 12) rfl, ⟨by decide +kernel, by decide +kernel⟩, by decide +kernel, Or.inl ⟨rfl, by decide, av_mem (i := 1497) rfl, av_mem (i := 1498) rfl⟩⟩
set_option maxRecDepth 100000 in
set_option maxHeartbeats 2000000 in
theorem hk_216 : av_hok ms_216 := ⟨by decide +kernel, rfl, av_mem (i := 1507) rfl, av_mem (i := 12) rfl, ⟨by decide +kernel, by decide +kernel⟩, by decide +kernel, Or.inl ⟨rfl, by decide, av_mem (i := 1506) rfl, av_memL (i := 93) rfl⟩⟩
set_option maxRecDepth 100000 in
set_option maxHeartbeats 2000000 in
theorem hk_217 : av_hok ms_217 := ⟨by decide +kernel, rfl, av_mem (i := 1503) rfl, av_mem (i := 12) rfl, ⟨by decide +kernel, by decide +kernel⟩, by decide +kernel, Or.inl ⟨rfl, by decide, av_mem (i := 1501) rfl, av_mem (i := 1502) rfl⟩⟩
set_option maxRecDepth 100000 in
set_option maxHeartbeats 2000000 in
theorem hk_218 : av_hok ms_218 := ⟨by decide +kernel, rfl, av_mem (i := 808) rfl, av_mem (i := 17) rfl, ⟨by decide +kernel, by decide +kernel⟩, by decide +kernel, Or.inr (Or.inr ⟨rfl, av_mem (i := 807) rfl⟩)⟩
set_option maxRecDepth 100000 in
set_option maxHeartbeats 2000000 in
theorem hk_219 : av_hok ms_219 := ⟨by decide +kernel, rfl, av_mem (i := 364) rfl, av_mem (i := 8) rfl, ⟨by decide +kernel, by decide +kernel⟩, by decide +kernel, Or.inr (Or.inr ⟨rfl, av_mem (i := 363) rfl⟩)⟩
set_option maxRecDepth 100000 in
set_option maxHeartbeats 2000000 in
theorem hk_220 : av_hok ms_220 := ⟨by decide +kernel, rfl, av_mem (i := 513) rfl, av_mem (i := 8) rfl, ⟨by decide +kernel, by decide +kernel⟩, by decide +kernel, Or.inr (Or.inr ⟨rfl, av_mem (i := 512) rfl⟩)⟩
set_option maxRecDepth 100000 in
set_option maxHeartbeats 2000000 in
theorem hk_221 : av_hok ms_221 := ⟨by decide +kernel, rfl, av_mem (i := 361) rfl, av_mem (i := 8) rfl, ⟨by decide +kernel, by decide +kernel⟩, by decide +kernel, Or.inr (Or.inr ⟨rfl, av_mem (i := 360) rfl⟩)⟩
set_option maxRecDepth 100000 in
set_option maxHeartbeats 2000000 in
theorem hk_222 : av_hok ms_222 := ⟨by decide +kernel, rfl, av_mem (i := 141) rfl, av_mem (i := 8) rfl, ⟨by decide +kernel, by decide +kernel⟩, by decide +kernel, Or.inr (Or.inr ⟨rfl, av_mem (i := 140) rfl⟩)⟩
