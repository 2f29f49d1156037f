theorem cn_L_48 : Cond.constantLong RL 48 4294967295 ∈ gw := gd 987 (by decide +kernel) (by decide +kernel)
set_option maxRecDepth 40000 in
theorem mc_X6_lake_L : Cond.code yX6_lake cX6_lake 3 (some .int) ∈ gw := gd 258 rfl rfl
theorem ml_L_13 : MLv RL 13 yX6_lake cX6_lake 3 (some .int) 2 := ⟨gd 255 (by decide +kernel) (by decide +kernel), gd 256 (by decide +kernel) (by decide +kernel), gd 257 (by decide +kernel) (by decide +kernel), ii_X6, mc_X6_lake_L, ⟨by decide +kernel, by decide +kernel, by decide +kernel⟩⟩
set_option maxRecDepth 40000 in
theorem mc_X7_lake_L : Cond.code yX7_lake cX7_lake 4 (some .int) ∈ gw := gd 725 rfl rfl
theorem ml_L_17 : MLv RL 17 yX7_lake cX7_lake 4 (some .int) 2 := ⟨gd 722 (by decide +kernel) (by decide +kernel), gd 723 (by decide +kernel) (by decide +kernel), gd 724 (by decide +kernel) (by decide +kernel), ii_X7, mc_X7_lake_L, ⟨by decide +kernel, by decide +kernel, by decide +kernel⟩⟩
set_option maxRecDepth 40000 in
theorem mc_X6_ice_L : Cond.code yX6_ice cX6_ice 4 (some .int) ∈ gw := gd 265 rfl rfl
theorem ml_L_18 : MLv RL 18 yX6_ice cX6_ice 4 (some .int) 2 := ⟨gd 262 (by decide +kernel) (by decide +kernel), gd 263 (by decide +kernel) (by decide +kernel), gd 264 (by decide +kernel) (by decide +kernel), ii_X6, mc_X6_ice_L, ⟨by decide +kernel, by decide +kernel, by decide +kernel⟩⟩
set_option maxRecDepth 40000 in
theorem mc_X7_ice_L : Cond.code yX7_ice cX7_ice 4 (some .int) ∈ gw := gd 738 rfl rfl
theorem ml_L_21 : MLv RL 21 yX7_ice cX7_ice 4 (some .int) 2 := ⟨gd 735 (by decide +kernel) (by decide +kernel), gd 736 (by decide +kernel) (by decide +kernel), gd 737 (by decide +kernel) (by decide +kernel), ii_X7, mc_X7_ice_L, ⟨by decide +kernel, by decide +kernel, by decide +kernel⟩⟩
set_option maxRecDepth 40000 in
theorem mc_X6_square_L : Cond.code yX6_square cX6_square 3 (some .int) ∈ gw := gd 281 rfl rfl
theorem ml_L_22 : MLv RL 22 yX6_square cX6_square 3 (some .int) 2 := ⟨gd 278 (by decide +kernel) (by decide +kernel), gd 279 (by decide +kernel) (by decide +kernel), gd 280 (by decide +kernel) (by decide +kernel), ii_X6, mc_X6_square_L, ⟨by decide +kernel, by decide +kernel, by decide +kernel⟩⟩
set_option maxRecDepth 40000 in
theorem mc_X7_square_L : Cond.code yX7_square cX7_square 3 (some .int) ∈ gw := gd 755 rfl rfl
theorem ml_L_25 : MLv RL 25 yX7_square cX7_square 3 (some .int) 2 := ⟨gd 752 (by decide +kernel) (by decide +kernel), gd 753 (by decide +kernel) (by decide +kernel), gd 754 (by decide +kernel) (by decide +kernel), ii_X7, mc_X7_square_L, ⟨by decide +kernel, by decide +kernel, by decide +kernel⟩⟩
set_option maxRecDepth 40000 in
theorem mc_X6_fish_L : Cond.code yX6_fish cX6_fish 2 (some .int) ∈ gw := gd 285 rfl rfl
theorem ml_L_26 : MLv RL 26 yX6_fish cX6_fish 2 (some .int) 1 := ⟨gd 282 (by decide +kernel) (by decide +kernel), gd 283 (by decide +kernel) (by decide +kernel), gd 284 (by decide +kernel) (by decide +kernel), ii_X6, mc_X6_fish_L, ⟨by decide +kernel, by decide +kernel, by decide +kernel⟩⟩
set_option maxRecDepth 40000 in
theorem mc_X7_fish_L : Cond.code yX7_fish cX7_fish 4 (some .int) ∈ gw := gd 767 rfl rfl
theorem ml_L_30 : MLv RL 30 yX7_fish cX7_fish 4 (some .int) 1 := ⟨gd 764 (by decide +kernel) (by decide +kernel), gd 765 (by decide +kernel) (by decide +kernel), gd 766 (by decide +kernel) (by decide +kernel), ii_X7, mc_X7_fish_L, ⟨by decide +kernel, by decide +kernel, by decide +kernel⟩⟩
set_option maxRecDepth 40000 in
theorem mc_X6_write_L : Cond.code yX6_write cX6_write 9 (some .int) ∈ gw := gd 293 rfl rfl
theorem ml_L_31 : MLv RL 31 yX6_write cX6_write 9 (some .int) 6 := ⟨gd 290 (by decide +kernel) (by decide +kernel), gd 291 (by decide +kernel) (by decide +kernel), gd 292 (by decide +kernel) (by decide +kernel), ii_X6, mc_X6_write_L, ⟨by decide +kernel, by decide +kernel, by decide +kernel⟩⟩
set_option maxRecDepth 40000 in
theorem mc_X7_write_L : Cond.code yX7_write cX7_write 9 (some .int) ∈ gw := gd 775 rfl rfl
theorem ml_L_35 : MLv RL 35 yX7_write cX7_write 9 (some .int) 6 := ⟨gd 772 (by decide +kernel) (by decide +kernel), gd 773 (by decide +kernel) (by decide +kernel), gd 774 (by decide +kernel) (by decide +kernel), ii_X7, mc_X7_write_L, ⟨by decide +kernel, by decide +kernel, by decide +kernel⟩⟩
set_option maxRecDepth 40000 in
theorem mc_X6_about_L : Cond.code yX6_about cX6_about 4 (some .int) ∈ gw := gd 317 rfl rfl
theorem ml_L_36 : MLv RL 36 yX6_about cX6_about 4 (some .int) 2 := ⟨gd 314 (by decide +kernel) (by decide +kernel), gd 315 (by decide +kernel) (by decide +kernel), gd 316 (by decide +kernel) (by decide +kernel), ii_X6, mc_X6_about_L, ⟨by decide +kernel, by decide +kernel, by decide +kernel⟩⟩
set_option maxRecDepth 40000 in
theorem mc_X7_about_L : Cond.code yX7_about cX7_about 3 (some .int) ∈ gw := gd 784 rfl rfl
theorem ml_L_39 : MLv RL 39 yX7_about cX7_about 3 (some .int) 2 := ⟨gd 781 (by decide +kernel) (by decide +kernel), gd 782 (by decide +kernel) (by decide +kernel), gd 783 (by decide +kernel) (by decide +kernel), ii_X7, mc_X7_about_L, ⟨by decide +kernel, by decide +kernel, by decide +kernel⟩⟩
set_option maxRecDepth 40000 in
theorem mc_X6_as_L : Cond.code yX6_as cX6_as 3 (some .int) ∈ gw := gd 346 rfl rfl
theorem ml_L_40 : MLv RL 40 yX6_as cX6_as 3 (some .int) 2 := ⟨gd 343 (by decide +kernel) (by decide +kernel), gd 344 (by decide +kernel) (by decide +kernel), gd 345 (by decide +kernel) (by decide +kernel), ii_X6, mc_X6_as_L, ⟨by decide +kernel, by decide +kernel, by decide +kernel⟩⟩
set_option maxRecDepth 40000 in
theorem mc_X7_as_L : Cond.code yX7_as cX7_as 5 (some .int) ∈ gw := gd 804 rfl rfl
theorem ml_L_43 : MLv RL 43 yX7_as cX7_as 5 (some .int) 2 := ⟨gd 801 (by decide +kernel) (by decide +kernel), gd 802 (by decide +kernel) (by decide +kernel), gd 803 (by decide +kernel) (by decide +kernel), ii_X7, mc_X7_as_L, ⟨by decide +kernel, by decide +kernel, by decide +kernel⟩⟩
set_option maxRecDepth 40000 in
theorem mc_X6_saw_L : Cond.code yX6_saw cX6_saw 3 (some .int) ∈ gw := gd 351 rfl rfl
theorem ml_L_44 : MLv RL 44 yX6_saw cX6_saw 3 (some .int) 1 := ⟨gd 348 (by decide +kernel) (by decide +kernel), gd 349 (by decide +kernel) (by decide +kernel), gd 350 (by decide +kernel) (by decide +kernel), ii_X6, mc_X6_saw_L, ⟨by decide +kernel, by decide +kernel, by decide +kernel⟩⟩
set_option maxRecDepth 40000 in
theorem mc_X7_saw_L : Cond.code yX7_saw cX7_saw 2 (some .int) ∈ gw := gd 808 rfl rfl
theorem ml_L_47 : MLv RL 47 yX7_saw cX7_saw 2 (some .int) 1 := ⟨gd 805 (by decide +kernel) (by decide +kernel), gd 806 (by decide +kernel) (by decide +kernel), gd 807 (by decide +kernel) (by decide +kernel), ii_X7, mc_X7_saw_L, ⟨by decide +kernel, by decide +kernel, by decide +kernel⟩⟩
set_option maxRecDepth 40000 in
theorem mc_X6_letters_L : Cond.code yX6_letters cX6_letters 4 (some .int) ∈ gw := gd 360 rfl rfl
theorem ml_L_50 : MLv RL 50 yX6_letters cX6_letters 4 (some .int) 1 := ⟨gd 357 (by decide +kernel) (by decide +kernel), gd 358 (by decide +kernel) (by decide +kernel), gd 359 (by decide +kernel) (by decide +kernel), ii_X6, mc_X6_letters_L, ⟨by decide +kernel, by decide +kernel, by decide +kernel⟩⟩
set_option maxRecDepth 40000 in
theorem mc_X7_letters_L : Cond.code yX7_letters cX7_letters 9 (some .int) ∈ gw := gd 812 rfl rfl
theorem ml_L_54 : MLv RL 54 yX7_letters cX7_letters 9 (some .int) 1 := ⟨gd 809 (by decide +kernel) (by decide +kernel), gd 810 (by decide +kernel) (by decide +kernel), gd 811 (by decide +kernel) (by decide +kernel), ii_X7, mc_X7_letters_L, ⟨by decide +kernel, by decide +kernel, by decide +kernel⟩⟩
set_option maxRecDepth 40000 in
theorem mc_X6_blank_L : Cond.code yX6_blank cX6_blank 2 (some .int) ∈ gw := gd 375 rfl rfl
theorem ml_L_55 : MLv RL 55 yX6_blank cX6_blank 2 (some .int) 0 := ⟨gd 372 (by decide +kernel) (by decide +kernel), gd 373 (by decide +kernel) (by decide +kernel), gd 374 (by decide +kernel) (by decide +kernel), ii_X6, mc_X6_blank_L, ⟨by decide +kernel, by decide +kernel, by decide +kernel⟩⟩
set_option maxRecDepth 40000 in
theorem mc_X7_blank_L : Cond.code yX7_blank cX7_blank 2 (some .int) ∈ gw := gd 817 rfl rfl
theorem ml_L_59 : MLv RL 59 yX7_blank cX7_blank 2 (some .int) 0 := ⟨gd 814 (by decide +kernel) (by decide +kernel), gd 815 (by decide +kernel) (by decide +kernel), gd 816 (by decide +kernel) (by decide +kernel), ii_X7, mc_X7_blank_L, ⟨by decide +kernel, by decide +kernel, by decide +kernel⟩⟩
set_option maxRecDepth 40000 in
theorem mc_X6_fault_L : Cond.code yX6_fault cX6_fault 1 (some .int) ∈ gw := gd 379 rfl rfl
theorem ml_L_60 : MLv RL 60 yX6_fault cX6_fault 1 (some .int) 0 := ⟨gd 376 (by decide +kernel) (by decide +kernel), gd 377 (by decide +kernel) (by decide +kernel), gd 378 (by decide +kernel) (by decide +kernel), ii_X6, mc_X6_fault_L, ⟨by decide +kernel, by decide +kernel, by decide +kernel⟩⟩
set_option maxRecDepth 40000 in
theorem mc_X7_fault_L : Cond.code yX7_fault cX7_fault 1 (some .int) ∈ gw := gd 821 rfl rfl
theorem ml_L_63 : MLv RL 63 yX7_fault cX7_fault 1 (some .int) 0 := ⟨gd 818 (by decide +kernel) (by decide +kernel), gd 819 (by decide +kernel) (by decide +kernel), gd 820 (by decide +kernel) (by decide +kernel), ii_X7, mc_X7_fault_L, ⟨by decide +kernel, by decide +kernel, by decide +kernel⟩⟩
set_option maxRecDepth 40000 in
theorem mc_X6_days_L : Cond.code yX6_days cX6_days 3 (some .int) ∈ gw := gd 393 rfl rfl
theorem ml_L_64 : MLv RL 64 yX6_days cX6_days 3 (some .int) 0 := ⟨gd 390 (by decide +kernel) (by decide +kernel), gd 391 (by decide +kernel) (by decide +kernel), gd 392 (by decide +kernel) (by decide +kernel), ii_X6, mc_X6_days_L, ⟨by decide +kernel, by decide +kernel, by decide +kernel⟩⟩
set_option maxRecDepth 40000 in
theorem mc_X7_days_L : Cond.code yX7_days cX7_days 3 (some .int) ∈ gw := gd 838 rfl rfl
theorem ml_L_67 : MLv RL 67 yX7_days cX7_days 3 (some .int) 0 := ⟨gd 835 (by decide +kernel) (by decide +kernel), gd 836 (by decide +kernel) (by decide +kernel), gd 837 (by decide +kernel) (by decide +kernel), ii_X7, mc_X7_days_L, ⟨by decide +kernel, by decide +kernel, by decide +kernel⟩⟩
set_option maxRecDepth 40000 in
theorem mc_X6_needed_L : Cond.code yX6_needed cX6_needed 6 (some .int) ∈ gw := gd 436 rfl rfl
theorem ml_L_68 : MLv RL 68 yX6_needed cX6_needed 6 (some .int) 2 := ⟨gd 433 (by decide +kernel) (by decide +kernel), gd 434 (by decide +kernel) (by decide +kernel), gd 435 (by decide +kernel) (by decide +kernel), ii_X6, mc_X6_needed_L, ⟨by decide +kernel, by decide +kernel, by decide +kernel⟩⟩
set_option maxRecDepth 40000 in
theorem mc_X7_needed_L : Cond.code yX7_needed cX7_needed 4 (some .int) ∈ gw := gd 864 rfl rfl
theorem ml_L_71 : MLv RL 71 yX7_needed cX7_needed 4 (some .int) 2 := ⟨gd 861 (by decide +kernel) (by decide +kernel), gd 862 (by decide +kernel) (by decide +kernel), gd 863 (by decide +kernel) (by decide +kernel), ii_X7, mc_X7_needed_L, ⟨by decide +kernel, by decide +kernel, by decide +kernel⟩⟩
set_option maxRecDepth 40000 in
theorem mc_X6_bears_L : Cond.code yX6_bears cX6_bears 2 (some .int) ∈ gw := gd 449 rfl rfl
theorem ml_L_72 : MLv RL 72 yX6_bears cX6_bears 2 (some .int) 1 := ⟨gd 446 (by decide +kernel) (by decide +kernel), gd 447 (by decide +kernel) (by decide +kernel), gd 448 (by decide +kernel) (by decide +kernel), ii_X6, mc_X6_bears_L, ⟨by decide +kernel, by decide +kernel, by decide +kernel⟩⟩
set_option maxRecDepth 40000 in
theorem mc_X7_bears_L : Cond.code yX7_bears cX7_bears 4 (some .int) ∈ gw := gd 872 rfl rfl
theorem ml_L_75 : MLv RL 75 yX7_bears cX7_bears 4 (some .int) 1 := ⟨gd 869 (by decide +kernel) (by decide +kernel), gd 870 (by decide +kernel) (by decide +kernel), gd 871 (by decide +kernel) (by decide +kernel), ii_X7, mc_X7_bears_L, ⟨by decide +kernel, by decide +kernel, by decide +kernel⟩⟩
set_option maxRecDepth 40000 in
theorem mc_X6_owes_L : Cond.code yX6_owes cX6_owes 8 (some .int) ∈ gw := gd 457 rfl rfl
theorem ml_L_76 : MLv RL 76 yX6_owes cX6_owes 8 (some .int) 3 := ⟨gd 454 (by decide +kernel) (by decide +kernel), gd 455 (by decide +kernel) (by decide +kernel), gd 456 (by decide +kernel) (by decide +kernel), ii_X6, mc_X6_owes_L, ⟨by decide +kernel, by decide +kernel, by decide +kernel⟩⟩
set_option maxRecDepth 40000 in
theorem mc_X7_owes_L : Cond.code yX7_owes cX7_owes 4 (some .int) ∈ gw := gd 876 rfl rfl
theorem ml_L_80 : MLv RL 80 yX7_owes cX7_owes 4 (some .int) 3 := ⟨gd 873 (by decide +kernel) (by decide +kernel), gd 874 (by decide +kernel) (by decide +kernel), gd 875 (by decide +kernel) (by decide +kernel), ii_X7, mc_X7_owes_L, ⟨by decide +kernel, by decide +kernel, by decide +kernel⟩⟩
set_option maxRecDepth 40000 in
theorem mc_X6_rest_L : Cond.code yX6_rest cX6_rest 2 (some .int) ∈ gw := gd 461 rfl rfl
theorem ml_L_81 : MLv RL 81 yX6_rest cX6_rest 2 (some .int) 1 := ⟨gd 458 (by decide +kernel) (by decide +kernel), gd 459 (by decide +kernel) (by decide +kernel), gd 460 (by decide +kernel) (by decide +kernel), ii_X6, mc_X6_rest_L, ⟨by decide +kernel, by decide +kernel, by decide +kernel⟩⟩
set_option maxRecDepth 40000 in
theorem mc_X7_rest_L : Cond.code yX7_rest cX7_rest 2 (some .int) ∈ gw := gd 884 rfl rfl
theorem ml_L_84 : MLv RL 84 yX7_rest cX7_rest 2 (some .int) 1 := ⟨gd 881 (by decide +kernel) (by decide +kernel), gd 882 (by decide +kernel) (by decide +kernel), gd 883 (by decide +kernel) (by decide +kernel), ii_X7, mc_X7_rest_L, ⟨by decide +kernel, by decide +kernel, by decide +kernel⟩⟩
set_option maxRecDepth 40000 in
theorem mc_X6_sledges_L : Cond.code yX6_sledges cX6_sledges 4 (some .int) ∈ gw := gd 471 rfl rfl
theorem ml_L_85 : MLv RL 85 yX6_sledges cX6_sledges 4 (some .int) 3 := ⟨gd 468 (by decide +kernel) (by decide +kernel), gd 469 (by decide +kernel) (by decide +kernel), gd 470 (by decide +kernel) (by decide +kernel), ii_X6, mc_X6_sledges_L, ⟨by decide +kernel, by decide +kernel, by decide +kernel⟩⟩
set_option maxRecDepth 40000 in
theorem mc_X7_sledges_L : Cond.code yX7_sledges cX7_sledges 11 (some .int) ∈ gw := gd 893 rfl rfl
theorem ml_L_89 : MLv RL 89 yX7_sledges cX7_sledges 11 (some .int) 3 := ⟨gd 890 (by decide +kernel) (by decide +kernel), gd 891 (by decide +kernel) (by decide +kernel), gd 892 (by decide +kernel) (by decide +kernel), ii_X7, mc_X7_sledges_L, ⟨by decide +kernel, by decide +kernel, by decide +kernel⟩⟩
set_option maxRecDepth 40000 in
theorem mc_X6_settled_L : Cond.code yX6_settled cX6_settled 3 (some .int) ∈ gw := gd 505 rfl rfl
theorem ml_L_90 : MLv RL 90 yX6_settled cX6_settled 3 (some .int) 1 := ⟨gd 502 (by decide +kernel) (by decide +kernel), gd 503 (by decide +kernel) (by decide +kernel), gd 504 (by decide +kernel) (by decide +kernel), ii_X6, mc_X6_settled_L, ⟨by decide +kernel, by decide +kernel, by decide +kernel⟩⟩
set_option maxRecDepth 40000 in
theorem mc_X7_settled_L : Cond.code yX7_settled cX7_settled 3 (some .int) ∈ gw := gd 910 rfl rfl
theorem ml_L_93 : MLv RL 93 yX7_settled cX7_settled 3 (some .int) 1 := ⟨gd 907 (by decide +kernel) (by decide +kernel), gd 908 (by decide +kernel) (by decide +kernel), gd 909 (by decide +kernel) (by decide +kernel), ii_X7, mc_X7_settled_L, ⟨by decide +kernel, by decide +kernel, by decide +kernel⟩⟩
set_option maxRecDepth 40000 in
theorem mc_X6_skate_L : Cond.code yX6_skate cX6_skate 4 (some .int) ∈ gw := gd 519 rfl rfl
theorem ml_L_94 : MLv RL 94 yX6_skate cX6_skate 4 (some .int) 3 := ⟨gd 516 (by decide +kernel) (by decide +kernel), gd 517 (by decide +kernel) (by decide +kernel), gd 518 (by decide +kernel) (by decide +kernel), ii_X6, mc_X6_skate_L, ⟨by decide +kernel, by decide +kernel, by decide +kernel⟩⟩
set_option maxRecDepth 40000 in
theorem mc_X7_skate_L : Cond.code yX7_skate cX7_skate 4 (some .int) ∈ gw := gd 918 rfl rfl
theorem ml_L_97 : MLv RL 97 yX7_skate cX7_skate 4 (some .int) 3 := ⟨gd 915 (by decide +kernel) (by decide +kernel), gd 916 (by decide +kernel) (by decide +kernel), gd 917 (by decide +kernel) (by decide +kernel), ii_X7, mc_X7_skate_L, ⟨by decide +kernel, by decide +kernel, by decide +kernel⟩⟩
set_option maxRecDepth 40000 in
theorem mc_X6_odds_L : Cond.code yX6_odds cX6_odds 13 (some .long) ∈ gw := gd 548 rfl rfl
theorem ml_L_98 : MLv RL 98 yX6_odds cX6_odds 13 (some .long) 5 := ⟨gd 545 (by decide +kernel) (by decide +kernel), gd 546 (by decide +kernel) (by decide +kernel), gd 547 (by decide +kernel) (by decide +kernel), ii_X6, mc_X6_odds_L, ⟨by decide +kernel, by decide +kernel, by decide +kernel⟩⟩
set_option maxRecDepth 40000 in
theorem mc_X7_odds_L : Cond.code yX7_odds cX7_odds 16 (some .long) ∈ gw := gd 934 rfl rfl
theorem ml_L_102 : MLv RL 102 yX7_odds cX7_odds 16 (some .long) 5 := ⟨gd 931 (by decide +kernel) (by decide +kernel), gd 932 (by decide +kernel) (by decide +kernel), gd 933 (by decide +kernel) (by decide +kernel), ii_X7, mc_X7_odds_L, ⟨by decide +kernel, by decide +kernel, by decide +kernel⟩⟩
set_option maxRecDepth 40000 in
theorem mc_X6_winter_L : Cond.code yX6_winter cX6_winter 8 (some .int) ∈ gw := gd 570 rfl rfl
theorem ml_L_103 : MLv RL 103 yX6_winter cX6_winter 8 (some .int) 3 := ⟨gd 567 (by decide +kernel) (by decide +kernel), gd 568 (by decide +kernel) (by decide +kernel), gd 569 (by decide +kernel) (by decide +kernel), ii_X6, mc_X6_winter_L, ⟨by decide +kernel, by decide +kernel, by decide +kernel⟩⟩
set_option maxRecDepth 40000 in
theorem mc_X7_winter_L : Cond.code yX7_winter cX7_winter 7 (some .int) ∈ gw := gd 948 rfl rfl
theorem ml_L_106 : MLv RL 106 yX7_winter cX7_winter 7 (some .int) 3 := ⟨gd 945 (by decide +kernel) (by decide +kernel), gd 946 (by decide +kernel) (by decide +kernel), gd 947 (by decide +kernel) (by decide +kernel), ii_X7, mc_X7_winter_L, ⟨by decide +kernel, by decide +kernel, by decide +kernel⟩⟩
set_option maxRecDepth 40000 in
theorem mc_X6_image_L : Cond.code yX6_image cX6_image 1 (some .int) ∈ gw := gd 601 rfl rfl
theorem ml_L_107 : MLv RL 107 yX6_image cX6_image 1 (some .int) 0 := ⟨gd 598 (by decide +kernel) (by decide +kernel), gd 599 (by decide +kernel) (by decide +kernel), gd 600 (by decide +kernel) (by decide +kernel), ii_X6, mc_X6_image_L, ⟨by decide +kernel, by decide +kernel, by decide +kernel⟩⟩
set_option maxRecDepth 40000 in
theorem mc_X7_image_L : Cond.code yX7_image cX7_image 1 (some .int) ∈ gw := gd 964 rfl rfl
theorem ml_L_110 : MLv RL 110 yX7_image cX7_image 1 (some .int) 0 := ⟨gd 961 (by decide +kernel) (by decide +kernel), gd 962 (by decide +kernel) (by decide +kernel), gd 963 (by decide +kernel) (by decide +kernel), ii_X7, mc_X7_image_L, ⟨by decide +kernel, by decide +kernel, by decide +kernel⟩⟩
set_option maxRecDepth 40000 in
theorem mc_X6_restore_L : Cond.code yX6_restore cX6_restore 1 (some .int) ∈ gw := gd 605 rfl rfl
theorem ml_L_111 : MLv RL 111 yX6_restore cX6_restore 1 (some .int) 0 := ⟨gd 602 (by decide +kernel) (by decide +kernel), gd 603 (by decide +kernel) (by decide +kernel), gd 604 (by decide +kernel) (by decide +kernel), ii_X6, mc_X6_restore_L, ⟨by decide +kernel, by decide +kernel, by decide +kernel⟩⟩
set_option maxRecDepth 40000 in
theorem mc_X7_restore_L : Cond.code yX7_restore cX7_restore 1 (some .int) ∈ gw := gd 968 rfl rfl
theorem ml_L_114 : MLv RL 114 yX7_restore cX7_restore 1 (some .int) 0 := ⟨gd 965 (by decide +kernel) (by decide +kernel), gd 966 (by decide +kernel) (by decide +kernel), gd 967 (by decide +kernel) (by decide +kernel), ii_X7, mc_X7_restore_L, ⟨by decide +kernel, by decide +kernel, by decide +kernel⟩⟩
set_option maxRecDepth 40000 in
theorem mc_X6_count_L : Cond.code yX6_count cX6_count 2 (some .int) ∈ gw := gd 609 rfl rfl
theorem ml_L_115 : MLv RL 115 yX6_count cX6_count 2 (some .int) 1 := ⟨gd 606 (by decide +kernel) (by decide +kernel), gd 607 (by decide +kernel) (by decide +kernel), gd 608 (by decide +kernel) (by decide +kernel), ii_X6, mc_X6_count_L, ⟨by decide +kernel, by decide +kernel, by decide +kernel⟩⟩
set_option maxRecDepth 40000 in
theorem mc_X7_count_L : Cond.code yX7_count cX7_count 2 (some .int) ∈ gw := gd 972 rfl rfl
theorem ml_L_118 : MLv RL 118 yX7_count cX7_count 2 (some .int) 1 := ⟨gd 969 (by decide +kernel) (by decide +kernel), gd 970 (by decide +kernel) (by decide +kernel), gd 971 (by decide +kernel) (by decide +kernel), ii_X7, mc_X7_count_L, ⟨by decide +kernel, by decide +kernel, by decide +kernel⟩⟩
set_option maxRecDepth 40000 in
theorem mc_X6_digest_L : Cond.code yX6_digest cX6_digest 5 (some .long) ∈ gw := gd 613 rfl rfl
theorem ml_L_119 : MLv RL 119 yX6_digest cX6_digest 5 (some .long) 0 := ⟨gd 610 (by decide +kernel) (by decide +kernel), gd 611 (by decide +kernel) (by decide +kernel), gd 612 (by decide +kernel) (by decide +kernel), ii_X6, mc_X6_digest_L, ⟨by decide +kernel, by decide +kernel, by decide +kernel⟩⟩
set_option maxRecDepth 40000 in
theorem mc_X7_digest_L : Cond.code yX7_digest cX7_digest 3 (some .long) ∈ gw := gd 980 rfl rfl
theorem ml_L_123 : MLv RL 123 yX7_digest cX7_digest 3 (some .long) 0 := ⟨gd 977 (by decide +kernel) (by decide +kernel), gd 978 (by decide +kernel) (by decide +kernel), gd 979 (by decide +kernel) (by decide +kernel), ii_X7, mc_X7_digest_L, ⟨by decide +kernel, by decide +kernel, by decide +kernel⟩⟩
