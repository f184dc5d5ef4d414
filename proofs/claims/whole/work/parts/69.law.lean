/-! the law: its calls, its cases (laid by gen/mklaw.py) -/
abbrev mL_law : xg_Y := (yL_law, cL_law, 4, some .boolean)
theorem cw_L_13 : ∀ w ∈ [Cond.methodLink RL 13 mX4_write.1, .instanceMethod mX4_write.1, .selects mX4_write.1.cls mX4_write.1 mX4_write.1, .initialized mX4_write.1.cls, xg_cd mX4_write], w ∈ xg_tb := List.forall_mem_cons.mpr ⟨(xg_mi 278 (by decide +kernel) (by decide +kernel)), List.forall_mem_cons.mpr ⟨(xg_mi 279 (by decide +kernel) (by decide +kernel)), List.forall_mem_cons.mpr ⟨(xg_mi 280 (by decide +kernel) (by decide +kernel)), List.forall_mem_cons.mpr ⟨(xg_mi 58 (by decide +kernel) (by decide +kernel)), List.forall_mem_cons.mpr ⟨(xg_mi 281 (by decide +kernel) (by decide +kernel)), fun _ h => absurd h List.not_mem_nil⟩⟩⟩⟩⟩
theorem cw_L_17 : ∀ w ∈ [Cond.methodLink RL 17 mX5_write.1, .instanceMethod mX5_write.1, .selects mX5_write.1.cls mX5_write.1 mX5_write.1, .initialized mX5_write.1.cls, xg_cd mX5_write], w ∈ xg_tb := List.forall_mem_cons.mpr ⟨(xg_mi 808 (by decide +kernel) (by decide +kernel)), List.forall_mem_cons.mpr ⟨(xg_mi 809 (by decide +kernel) (by decide +kernel)), List.forall_mem_cons.mpr ⟨(xg_mi 810 (by decide +kernel) (by decide +kernel)), List.forall_mem_cons.mpr ⟨(xg_mi 63 (by decide +kernel) (by decide +kernel)), List.forall_mem_cons.mpr ⟨(xg_mi 811 (by decide +kernel) (by decide +kernel)), fun _ h => absurd h List.not_mem_nil⟩⟩⟩⟩⟩
theorem cw_L_18 : ∀ w ∈ [Cond.methodLink RL 18 mX4_erase.1, .instanceMethod mX4_erase.1, .selects mX4_erase.1.cls mX4_erase.1 mX4_erase.1, .initialized mX4_erase.1.cls, xg_cd mX4_erase], w ∈ xg_tb := List.forall_mem_cons.mpr ⟨(xg_mi 282 (by decide +kernel) (by decide +kernel)), List.forall_mem_cons.mpr ⟨(xg_mi 283 (by decide +kernel) (by decide +kernel)), List.forall_mem_cons.mpr ⟨(xg_mi 284 (by decide +kernel) (by decide +kernel)), List.forall_mem_cons.mpr ⟨(xg_mi 58 (by decide +kernel) (by decide +kernel)), List.forall_mem_cons.mpr ⟨(xg_mi 285 (by decide +kernel) (by decide +kernel)), fun _ h => absurd h List.not_mem_nil⟩⟩⟩⟩⟩
theorem cw_L_22 : ∀ w ∈ [Cond.methodLink RL 22 mX5_erase.1, .instanceMethod mX5_erase.1, .selects mX5_erase.1.cls mX5_erase.1 mX5_erase.1, .initialized mX5_erase.1.cls, xg_cd mX5_erase], w ∈ xg_tb := List.forall_mem_cons.mpr ⟨(xg_mi 815 (by decide +kernel) (by decide +kernel)), List.forall_mem_cons.mpr ⟨(xg_mi 816 (by decide +kernel) (by decide +kernel)), List.forall_mem_cons.mpr ⟨(xg_mi 817 (by decide +kernel) (by decide +kernel)), List.forall_mem_cons.mpr ⟨(xg_mi 63 (by decide +kernel) (by decide +kernel)), List.forall_mem_cons.mpr ⟨(xg_mi 818 (by decide +kernel) (by decide +kernel)), fun _ h => absurd h List.not_mem_nil⟩⟩⟩⟩⟩
theorem cw_L_23 : ∀ w ∈ [Cond.methodLink RL 23 mX4_fault.1, .instanceMethod mX4_fault.1, .selects mX4_fault.1.cls mX4_fault.1 mX4_fault.1, .initialized mX4_fault.1.cls, xg_cd mX4_fault], w ∈ xg_tb := List.forall_mem_cons.mpr ⟨(xg_mi 286 (by decide +kernel) (by decide +kernel)), List.forall_mem_cons.mpr ⟨(xg_mi 287 (by decide +kernel) (by decide +kernel)), List.forall_mem_cons.mpr ⟨(xg_mi 288 (by decide +kernel) (by decide +kernel)), List.forall_mem_cons.mpr ⟨(xg_mi 58 (by decide +kernel) (by decide +kernel)), List.forall_mem_cons.mpr ⟨(xg_mi 289 (by decide +kernel) (by decide +kernel)), fun _ h => absurd h List.not_mem_nil⟩⟩⟩⟩⟩
theorem cw_L_26 : ∀ w ∈ [Cond.methodLink RL 26 mX5_fault.1, .instanceMethod mX5_fault.1, .selects mX5_fault.1.cls mX5_fault.1 mX5_fault.1, .initialized mX5_fault.1.cls, xg_cd mX5_fault], w ∈ xg_tb := List.forall_mem_cons.mpr ⟨(xg_mi 819 (by decide +kernel) (by decide +kernel)), List.forall_mem_cons.mpr ⟨(xg_mi 820 (by decide +kernel) (by decide +kernel)), List.forall_mem_cons.mpr ⟨(xg_mi 821 (by decide +kernel) (by decide +kernel)), List.forall_mem_cons.mpr ⟨(xg_mi 63 (by decide +kernel) (by decide +kernel)), List.forall_mem_cons.mpr ⟨(xg_mi 822 (by decide +kernel) (by decide +kernel)), fun _ h => absurd h List.not_mem_nil⟩⟩⟩⟩⟩
theorem cw_L_27 : ∀ w ∈ [Cond.methodLink RL 27 mX4_court.1, .instanceMethod mX4_court.1, .selects mX4_court.1.cls mX4_court.1 mX4_court.1, .initialized mX4_court.1.cls, xg_cd mX4_court], w ∈ xg_tb := List.forall_mem_cons.mpr ⟨(xg_mi 414 (by decide +kernel) (by decide +kernel)), List.forall_mem_cons.mpr ⟨(xg_mi 415 (by decide +kernel) (by decide +kernel)), List.forall_mem_cons.mpr ⟨(xg_mi 416 (by decide +kernel) (by decide +kernel)), List.forall_mem_cons.mpr ⟨(xg_mi 58 (by decide +kernel) (by decide +kernel)), List.forall_mem_cons.mpr ⟨(xg_mi 417 (by decide +kernel) (by decide +kernel)), fun _ h => absurd h List.not_mem_nil⟩⟩⟩⟩⟩
theorem cw_L_30 : ∀ w ∈ [Cond.methodLink RL 30 mX5_court.1, .instanceMethod mX5_court.1, .selects mX5_court.1.cls mX5_court.1 mX5_court.1, .initialized mX5_court.1.cls, xg_cd mX5_court], w ∈ xg_tb := List.forall_mem_cons.mpr ⟨(xg_mi 864 (by decide +kernel) (by decide +kernel)), List.forall_mem_cons.mpr ⟨(xg_mi 865 (by decide +kernel) (by decide +kernel)), List.forall_mem_cons.mpr ⟨(xg_mi 866 (by decide +kernel) (by decide +kernel)), List.forall_mem_cons.mpr ⟨(xg_mi 63 (by decide +kernel) (by decide +kernel)), List.forall_mem_cons.mpr ⟨(xg_mi 867 (by decide +kernel) (by decide +kernel)), fun _ h => absurd h List.not_mem_nil⟩⟩⟩⟩⟩
theorem cw_L_31 : ∀ w ∈ [Cond.methodLink RL 31 mX4_thing.1, .instanceMethod mX4_thing.1, .selects mX4_thing.1.cls mX4_thing.1 mX4_thing.1, .initialized mX4_thing.1.cls, xg_cd mX4_thing], w ∈ xg_tb := List.forall_mem_cons.mpr ⟨(xg_mi 426 (by decide +kernel) (by decide +kernel)), List.forall_mem_cons.mpr ⟨(xg_mi 427 (by decide +kernel) (by decide +kernel)), List.forall_mem_cons.mpr ⟨(xg_mi 428 (by decide +kernel) (by decide +kernel)), List.forall_mem_cons.mpr ⟨(xg_mi 58 (by decide +kernel) (by decide +kernel)), List.forall_mem_cons.mpr ⟨(xg_mi 429 (by decide +kernel) (by decide +kernel)), fun _ h => absurd h List.not_mem_nil⟩⟩⟩⟩⟩
theorem cw_L_35 : ∀ w ∈ [Cond.methodLink RL 35 mX5_thing.1, .instanceMethod mX5_thing.1, .selects mX5_thing.1.cls mX5_thing.1 mX5_thing.1, .initialized mX5_thing.1.cls, xg_cd mX5_thing], w ∈ xg_tb := List.forall_mem_cons.mpr ⟨(xg_mi 872 (by decide +kernel) (by decide +kernel)), List.forall_mem_cons.mpr ⟨(xg_mi 873 (by decide +kernel) (by decide +kernel)), List.forall_mem_cons.mpr ⟨(xg_mi 874 (by decide +kernel) (by decide +kernel)), List.forall_mem_cons.mpr ⟨(xg_mi 63 (by decide +kernel) (by decide +kernel)), List.forall_mem_cons.mpr ⟨(xg_mi 875 (by decide +kernel) (by decide +kernel)), fun _ h => absurd h List.not_mem_nil⟩⟩⟩⟩⟩
theorem cw_L_36 : ∀ w ∈ [Cond.methodLink RL 36 mX4_as.1, .instanceMethod mX4_as.1, .selects mX4_as.1.cls mX4_as.1 mX4_as.1, .initialized mX4_as.1.cls, xg_cd mX4_as], w ∈ xg_tb := List.forall_mem_cons.mpr ⟨(xg_mi 451 (by decide +kernel) (by decide +kernel)), List.forall_mem_cons.mpr ⟨(xg_mi 452 (by decide +kernel) (by decide +kernel)), List.forall_mem_cons.mpr ⟨(xg_mi 453 (by decide +kernel) (by decide +kernel)), List.forall_mem_cons.mpr ⟨(xg_mi 58 (by decide +kernel) (by decide +kernel)), List.forall_mem_cons.mpr ⟨(xg_mi 454 (by decide +kernel) (by decide +kernel)), fun _ h => absurd h List.not_mem_nil⟩⟩⟩⟩⟩
theorem cw_L_39 : ∀ w ∈ [Cond.methodLink RL 39 mX5_as.1, .instanceMethod mX5_as.1, .selects mX5_as.1.cls mX5_as.1 mX5_as.1, .initialized mX5_as.1.cls, xg_cd mX5_as], w ∈ xg_tb := List.forall_mem_cons.mpr ⟨(xg_mi 895 (by decide +kernel) (by decide +kernel)), List.forall_mem_cons.mpr ⟨(xg_mi 896 (by decide +kernel) (by decide +kernel)), List.forall_mem_cons.mpr ⟨(xg_mi 897 (by decide +kernel) (by decide +kernel)), List.forall_mem_cons.mpr ⟨(xg_mi 63 (by decide +kernel) (by decide +kernel)), List.forall_mem_cons.mpr ⟨(xg_mi 898 (by decide +kernel) (by decide +kernel)), fun _ h => absurd h List.not_mem_nil⟩⟩⟩⟩⟩
theorem cw_L_40 : ∀ w ∈ [Cond.methodLink RL 40 mX4_floor.1, .instanceMethod mX4_floor.1, .selects mX4_floor.1.cls mX4_floor.1 mX4_floor.1, .initialized mX4_floor.1.cls, xg_cd mX4_floor], w ∈ xg_tb := List.forall_mem_cons.mpr ⟨(xg_mi 464 (by decide +kernel) (by decide +kernel)), List.forall_mem_cons.mpr ⟨(xg_mi 465 (by decide +kernel) (by decide +kernel)), List.forall_mem_cons.mpr ⟨(xg_mi 466 (by decide +kernel) (by decide +kernel)), List.forall_mem_cons.mpr ⟨(xg_mi 58 (by decide +kernel) (by decide +kernel)), List.forall_mem_cons.mpr ⟨(xg_mi 467 (by decide +kernel) (by decide +kernel)), fun _ h => absurd h List.not_mem_nil⟩⟩⟩⟩⟩
theorem cw_L_43 : ∀ w ∈ [Cond.methodLink RL 43 mX5_floor.1, .instanceMethod mX5_floor.1, .selects mX5_floor.1.cls mX5_floor.1 mX5_floor.1, .initialized mX5_floor.1.cls, xg_cd mX5_floor], w ∈ xg_tb := List.forall_mem_cons.mpr ⟨(xg_mi 907 (by decide +kernel) (by decide +kernel)), List.forall_mem_cons.mpr ⟨(xg_mi 908 (by decide +kernel) (by decide +kernel)), List.forall_mem_cons.mpr ⟨(xg_mi 909 (by decide +kernel) (by decide +kernel)), List.forall_mem_cons.mpr ⟨(xg_mi 63 (by decide +kernel) (by decide +kernel)), List.forall_mem_cons.mpr ⟨(xg_mi 910 (by decide +kernel) (by decide +kernel)), fun _ h => absurd h List.not_mem_nil⟩⟩⟩⟩⟩
theorem cw_L_44 : ∀ w ∈ [Cond.methodLink RL 44 mX4_hand.1, .instanceMethod mX4_hand.1, .selects mX4_hand.1.cls mX4_hand.1 mX4_hand.1, .initialized mX4_hand.1.cls, xg_cd mX4_hand], w ∈ xg_tb := List.forall_mem_cons.mpr ⟨(xg_mi 477 (by decide +kernel) (by decide +kernel)), List.forall_mem_cons.mpr ⟨(xg_mi 478 (by decide +kernel) (by decide +kernel)), List.forall_mem_cons.mpr ⟨(xg_mi 479 (by decide +kernel) (by decide +kernel)), List.forall_mem_cons.mpr ⟨(xg_mi 58 (by decide +kernel) (by decide +kernel)), List.forall_mem_cons.mpr ⟨(xg_mi 480 (by decide +kernel) (by decide +kernel)), fun _ h => absurd h List.not_mem_nil⟩⟩⟩⟩⟩
theorem cw_L_47 : ∀ w ∈ [Cond.methodLink RL 47 mX5_hand.1, .instanceMethod mX5_hand.1, .selects mX5_hand.1.cls mX5_hand.1 mX5_hand.1, .initialized mX5_hand.1.cls, xg_cd mX5_hand], w ∈ xg_tb := List.forall_mem_cons.mpr ⟨(xg_mi 923 (by decide +kernel) (by decide +kernel)), List.forall_mem_cons.mpr ⟨(xg_mi 924 (by decide +kernel) (by decide +kernel)), List.forall_mem_cons.mpr ⟨(xg_mi 925 (by decide +kernel) (by decide +kernel)), List.forall_mem_cons.mpr ⟨(xg_mi 63 (by decide +kernel) (by decide +kernel)), List.forall_mem_cons.mpr ⟨(xg_mi 926 (by decide +kernel) (by decide +kernel)), fun _ h => absurd h List.not_mem_nil⟩⟩⟩⟩⟩
theorem cw_L_48 : ∀ w ∈ [Cond.methodLink RL 48 mX4_touch.1, .instanceMethod mX4_touch.1, .selects mX4_touch.1.cls mX4_touch.1 mX4_touch.1, .initialized mX4_touch.1.cls, xg_cd mX4_touch], w ∈ xg_tb := List.forall_mem_cons.mpr ⟨(xg_mi 484 (by decide +kernel) (by decide +kernel)), List.forall_mem_cons.mpr ⟨(xg_mi 485 (by decide +kernel) (by decide +kernel)), List.forall_mem_cons.mpr ⟨(xg_mi 486 (by decide +kernel) (by decide +kernel)), List.forall_mem_cons.mpr ⟨(xg_mi 58 (by decide +kernel) (by decide +kernel)), List.forall_mem_cons.mpr ⟨(xg_mi 487 (by decide +kernel) (by decide +kernel)), fun _ h => absurd h List.not_mem_nil⟩⟩⟩⟩⟩
theorem cw_L_51 : ∀ w ∈ [Cond.methodLink RL 51 mX5_touch.1, .instanceMethod mX5_touch.1, .selects mX5_touch.1.cls mX5_touch.1 mX5_touch.1, .initialized mX5_touch.1.cls, xg_cd mX5_touch], w ∈ xg_tb := List.forall_mem_cons.mpr ⟨(xg_mi 935 (by decide +kernel) (by decide +kernel)), List.forall_mem_cons.mpr ⟨(xg_mi 936 (by decide +kernel) (by decide +kernel)), List.forall_mem_cons.mpr ⟨(xg_mi 937 (by decide +kernel) (by decide +kernel)), List.forall_mem_cons.mpr ⟨(xg_mi 63 (by decide +kernel) (by decide +kernel)), List.forall_mem_cons.mpr ⟨(xg_mi 938 (by decide +kernel) (by decide +kernel)), fun _ h => absurd h List.not_mem_nil⟩⟩⟩⟩⟩
theorem cw_L_52 : ∀ w ∈ [Cond.methodLink RL 52 mX4_by.1, .instanceMethod mX4_by.1, .selects mX4_by.1.cls mX4_by.1 mX4_by.1, .initialized mX4_by.1.cls, xg_cd mX4_by], w ∈ xg_tb := List.forall_mem_cons.mpr ⟨(xg_mi 511 (by decide +kernel) (by decide +kernel)), List.forall_mem_cons.mpr ⟨(xg_mi 512 (by decide +kernel) (by decide +kernel)), List.forall_mem_cons.mpr ⟨(xg_mi 513 (by decide +kernel) (by decide +kernel)), List.forall_mem_cons.mpr ⟨(xg_mi 58 (by decide +kernel) (by decide +kernel)), List.forall_mem_cons.mpr ⟨(xg_mi 514 (by decide +kernel) (by decide +kernel)), fun _ h => absurd h List.not_mem_nil⟩⟩⟩⟩⟩
theorem cw_L_55 : ∀ w ∈ [Cond.methodLink RL 55 mX5_by.1, .instanceMethod mX5_by.1, .selects mX5_by.1.cls mX5_by.1 mX5_by.1, .initialized mX5_by.1.cls, xg_cd mX5_by], w ∈ xg_tb := List.forall_mem_cons.mpr ⟨(xg_mi 954 (by decide +kernel) (by decide +kernel)), List.forall_mem_cons.mpr ⟨(xg_mi 955 (by decide +kernel) (by decide +kernel)), List.forall_mem_cons.mpr ⟨(xg_mi 956 (by decide +kernel) (by decide +kernel)), List.forall_mem_cons.mpr ⟨(xg_mi 63 (by decide +kernel) (by decide +kernel)), List.forall_mem_cons.mpr ⟨(xg_mi 957 (by decide +kernel) (by decide +kernel)), fun _ h => absurd h List.not_mem_nil⟩⟩⟩⟩⟩
theorem cw_L_56 : ∀ w ∈ [Cond.methodLink RL 56 mX4_eat.1, .instanceMethod mX4_eat.1, .selects mX4_eat.1.cls mX4_eat.1 mX4_eat.1, .initialized mX4_eat.1.cls, xg_cd mX4_eat], w ∈ xg_tb := List.forall_mem_cons.mpr ⟨(xg_mi 519 (by decide +kernel) (by decide +kernel)), List.forall_mem_cons.mpr ⟨(xg_mi 520 (by decide +kernel) (by decide +kernel)), List.forall_mem_cons.mpr ⟨(xg_mi 521 (by decide +kernel) (by decide +kernel)), List.forall_mem_cons.mpr ⟨(xg_mi 58 (by decide +kernel) (by decide +kernel)), List.forall_mem_cons.mpr ⟨(xg_mi 522 (by decide +kernel) (by decide +kernel)), fun _ h => absurd h List.not_mem_nil⟩⟩⟩⟩⟩
theorem cw_L_59 : ∀ w ∈ [Cond.methodLink RL 59 mX5_eat.1, .instanceMethod mX5_eat.1, .selects mX5_eat.1.cls mX5_eat.1 mX5_eat.1, .initialized mX5_eat.1.cls, xg_cd mX5_eat], w ∈ xg_tb := List.forall_mem_cons.mpr ⟨(xg_mi 962 (by decide +kernel) (by decide +kernel)), List.forall_mem_cons.mpr ⟨(xg_mi 963 (by decide +kernel) (by decide +kernel)), List.forall_mem_cons.mpr ⟨(xg_mi 964 (by decide +kernel) (by decide +kernel)), List.forall_mem_cons.mpr ⟨(xg_mi 63 (by decide +kernel) (by decide +kernel)), List.forall_mem_cons.mpr ⟨(xg_mi 965 (by decide +kernel) (by decide +kernel)), fun _ h => absurd h List.not_mem_nil⟩⟩⟩⟩⟩
theorem cw_L_60 : ∀ w ∈ [Cond.methodLink RL 60 mX4_bathe.1, .instanceMethod mX4_bathe.1, .selects mX4_bathe.1.cls mX4_bathe.1 mX4_bathe.1, .initialized mX4_bathe.1.cls, xg_cd mX4_bathe], w ∈ xg_tb := List.forall_mem_cons.mpr ⟨(xg_mi 527 (by decide +kernel) (by decide +kernel)), List.forall_mem_cons.mpr ⟨(xg_mi 528 (by decide +kernel) (by decide +kernel)), List.forall_mem_cons.mpr ⟨(xg_mi 529 (by decide +kernel) (by decide +kernel)), List.forall_mem_cons.mpr ⟨(xg_mi 58 (by decide +kernel) (by decide +kernel)), List.forall_mem_cons.mpr ⟨(xg_mi 530 (by decide +kernel) (by decide +kernel)), fun _ h => absurd h List.not_mem_nil⟩⟩⟩⟩⟩
theorem cw_L_63 : ∀ w ∈ [Cond.methodLink RL 63 mX5_bathe.1, .instanceMethod mX5_bathe.1, .selects mX5_bathe.1.cls mX5_bathe.1 mX5_bathe.1, .initialized mX5_bathe.1.cls, xg_cd mX5_bathe], w ∈ xg_tb := List.forall_mem_cons.mpr ⟨(xg_mi 966 (by decide +kernel) (by decide +kernel)), List.forall_mem_cons.mpr ⟨(xg_mi 967 (by decide +kernel) (by decide +kernel)), List.forall_mem_cons.mpr ⟨(xg_mi 968 (by decide +kernel) (by decide +kernel)), List.forall_mem_cons.mpr ⟨(xg_mi 63 (by decide +kernel) (by decide +kernel)), List.forall_mem_cons.mpr ⟨(xg_mi 969 (by decide +kernel) (by decide +kernel)), fun _ h => absurd h List.not_mem_nil⟩⟩⟩⟩⟩
theorem cw_L_64 : ∀ w ∈ [Cond.methodLink RL 64 mX4_idle.1, .instanceMethod mX4_idle.1, .selects mX4_idle.1.cls mX4_idle.1 mX4_idle.1, .initialized mX4_idle.1.cls, xg_cd mX4_idle], w ∈ xg_tb := List.forall_mem_cons.mpr ⟨(xg_mi 531 (by decide +kernel) (by decide +kernel)), List.forall_mem_cons.mpr ⟨(xg_mi 532 (by decide +kernel) (by decide +kernel)), List.forall_mem_cons.mpr ⟨(xg_mi 533 (by decide +kernel) (by decide +kernel)), List.forall_mem_cons.mpr ⟨(xg_mi 58 (by decide +kernel) (by decide +kernel)), List.forall_mem_cons.mpr ⟨(xg_mi 534 (by decide +kernel) (by decide +kernel)), fun _ h => absurd h List.not_mem_nil⟩⟩⟩⟩⟩
theorem cw_L_67 : ∀ w ∈ [Cond.methodLink RL 67 mX5_idle.1, .instanceMethod mX5_idle.1, .selects mX5_idle.1.cls mX5_idle.1 mX5_idle.1, .initialized mX5_idle.1.cls, xg_cd mX5_idle], w ∈ xg_tb := List.forall_mem_cons.mpr ⟨(xg_mi 970 (by decide +kernel) (by decide +kernel)), List.forall_mem_cons.mpr ⟨(xg_mi 971 (by decide +kernel) (by decide +kernel)), List.forall_mem_cons.mpr ⟨(xg_mi 972 (by decide +kernel) (by decide +kernel)), List.forall_mem_cons.mpr ⟨(xg_mi 63 (by decide +kernel) (by decide +kernel)), List.forall_mem_cons.mpr ⟨(xg_mi 973 (by decide +kernel) (by decide +kernel)), fun _ h => absurd h List.not_mem_nil⟩⟩⟩⟩⟩
theorem cw_L_68 : ∀ w ∈ [Cond.methodLink RL 68 mX4_undo.1, .instanceMethod mX4_undo.1, .selects mX4_undo.1.cls mX4_undo.1 mX4_undo.1, .initialized mX4_undo.1.cls, xg_cd mX4_undo], w ∈ xg_tb := List.forall_mem_cons.mpr ⟨(xg_mi 535 (by decide +kernel) (by decide +kernel)), List.forall_mem_cons.mpr ⟨(xg_mi 536 (by decide +kernel) (by decide +kernel)), List.forall_mem_cons.mpr ⟨(xg_mi 537 (by decide +kernel) (by decide +kernel)), List.forall_mem_cons.mpr ⟨(xg_mi 58 (by decide +kernel) (by decide +kernel)), List.forall_mem_cons.mpr ⟨(xg_mi 538 (by decide +kernel) (by decide +kernel)), fun _ h => absurd h List.not_mem_nil⟩⟩⟩⟩⟩
theorem cw_L_71 : ∀ w ∈ [Cond.methodLink RL 71 mX5_undo.1, .instanceMethod mX5_undo.1, .selects mX5_undo.1.cls mX5_undo.1 mX5_undo.1, .initialized mX5_undo.1.cls, xg_cd mX5_undo], w ∈ xg_tb := List.forall_mem_cons.mpr ⟨(xg_mi 974 (by decide +kernel) (by decide +kernel)), List.forall_mem_cons.mpr ⟨(xg_mi 975 (by decide +kernel) (by decide +kernel)), List.forall_mem_cons.mpr ⟨(xg_mi 976 (by decide +kernel) (by decide +kernel)), List.forall_mem_cons.mpr ⟨(xg_mi 63 (by decide +kernel) (by decide +kernel)), List.forall_mem_cons.mpr ⟨(xg_mi 977 (by decide +kernel) (by decide +kernel)), fun _ h => absurd h List.not_mem_nil⟩⟩⟩⟩⟩
theorem cw_L_72 : ∀ w ∈ [Cond.methodLink RL 72 mX4_keep.1, .instanceMethod mX4_keep.1, .selects mX4_keep.1.cls mX4_keep.1 mX4_keep.1, .initialized mX4_keep.1.cls, xg_cd mX4_keep], w ∈ xg_tb := List.forall_mem_cons.mpr ⟨(xg_mi 539 (by decide +kernel) (by decide +kernel)), List.forall_mem_cons.mpr ⟨(xg_mi 540 (by decide +kernel) (by decide +kernel)), List.forall_mem_cons.mpr ⟨(xg_mi 541 (by decide +kernel) (by decide +kernel)), List.forall_mem_cons.mpr ⟨(xg_mi 58 (by decide +kernel) (by decide +kernel)), List.forall_mem_cons.mpr ⟨(xg_mi 542 (by decide +kernel) (by decide +kernel)), fun _ h => absurd h List.not_mem_nil⟩⟩⟩⟩⟩
theorem cw_L_75 : ∀ w ∈ [Cond.methodLink RL 75 mX5_keep.1, .instanceMethod mX5_keep.1, .selects mX5_keep.1.cls mX5_keep.1 mX5_keep.1, .initialized mX5_keep.1.cls, xg_cd mX5_keep], w ∈ xg_tb := List.forall_mem_cons.mpr ⟨(xg_mi 978 (by decide +kernel) (by decide +kernel)), List.forall_mem_cons.mpr ⟨(xg_mi 979 (by decide +kernel) (by decide +kernel)), List.forall_mem_cons.mpr ⟨(xg_mi 980 (by decide +kernel) (by decide +kernel)), List.forall_mem_cons.mpr ⟨(xg_mi 63 (by decide +kernel) (by decide +kernel)), List.forall_mem_cons.mpr ⟨(xg_mi 981 (by decide +kernel) (by decide +kernel)), fun _ h => absurd h List.not_mem_nil⟩⟩⟩⟩⟩
theorem cw_L_76 : ∀ w ∈ [Cond.methodLink RL 76 mX4_back.1, .instanceMethod mX4_back.1, .selects mX4_back.1.cls mX4_back.1 mX4_back.1, .initialized mX4_back.1.cls, xg_cd mX4_back], w ∈ xg_tb := List.forall_mem_cons.mpr ⟨(xg_mi 543 (by decide +kernel) (by decide +kernel)), List.forall_mem_cons.mpr ⟨(xg_mi 544 (by decide +kernel) (by decide +kernel)), List.forall_mem_cons.mpr ⟨(xg_mi 545 (by decide +kernel) (by decide +kernel)), List.forall_mem_cons.mpr ⟨(xg_mi 58 (by decide +kernel) (by decide +kernel)), List.forall_mem_cons.mpr ⟨(xg_mi 546 (by decide +kernel) (by decide +kernel)), fun _ h => absurd h List.not_mem_nil⟩⟩⟩⟩⟩
theorem cw_L_79 : ∀ w ∈ [Cond.methodLink RL 79 mX5_back.1, .instanceMethod mX5_back.1, .selects mX5_back.1.cls mX5_back.1 mX5_back.1, .initialized mX5_back.1.cls, xg_cd mX5_back], w ∈ xg_tb := List.forall_mem_cons.mpr ⟨(xg_mi 982 (by decide +kernel) (by decide +kernel)), List.forall_mem_cons.mpr ⟨(xg_mi 983 (by decide +kernel) (by decide +kernel)), List.forall_mem_cons.mpr ⟨(xg_mi 984 (by decide +kernel) (by decide +kernel)), List.forall_mem_cons.mpr ⟨(xg_mi 63 (by decide +kernel) (by decide +kernel)), List.forall_mem_cons.mpr ⟨(xg_mi 985 (by decide +kernel) (by decide +kernel)), fun _ h => absurd h List.not_mem_nil⟩⟩⟩⟩⟩
theorem cw_L_80 : ∀ w ∈ [Cond.methodLink RL 80 mX4_town.1, .instanceMethod mX4_town.1, .selects mX4_town.1.cls mX4_town.1 mX4_town.1, .initialized mX4_town.1.cls, xg_cd mX4_town], w ∈ xg_tb := List.forall_mem_cons.mpr ⟨(xg_mi 547 (by decide +kernel) (by decide +kernel)), List.forall_mem_cons.mpr ⟨(xg_mi 548 (by decide +kernel) (by decide +kernel)), List.forall_mem_cons.mpr ⟨(xg_mi 549 (by decide +kernel) (by decide +kernel)), List.forall_mem_cons.mpr ⟨(xg_mi 58 (by decide +kernel) (by decide +kernel)), List.forall_mem_cons.mpr ⟨(xg_mi 550 (by decide +kernel) (by decide +kernel)), fun _ h => absurd h List.not_mem_nil⟩⟩⟩⟩⟩
theorem cw_L_83 : ∀ w ∈ [Cond.methodLink RL 83 mX5_town.1, .instanceMethod mX5_town.1, .selects mX5_town.1.cls mX5_town.1 mX5_town.1, .initialized mX5_town.1.cls, xg_cd mX5_town], w ∈ xg_tb := List.forall_mem_cons.mpr ⟨(xg_mi 986 (by decide +kernel) (by decide +kernel)), List.forall_mem_cons.mpr ⟨(xg_mi 987 (by decide +kernel) (by decide +kernel)), List.forall_mem_cons.mpr ⟨(xg_mi 988 (by decide +kernel) (by decide +kernel)), List.forall_mem_cons.mpr ⟨(xg_mi 63 (by decide +kernel) (by decide +kernel)), List.forall_mem_cons.mpr ⟨(xg_mi 989 (by decide +kernel) (by decide +kernel)), fun _ h => absurd h List.not_mem_nil⟩⟩⟩⟩⟩
theorem cw_L_84 : ∀ w ∈ [Cond.methodLink RL 84 mX4_put.1, .instanceMethod mX4_put.1, .selects mX4_put.1.cls mX4_put.1 mX4_put.1, .initialized mX4_put.1.cls, xg_cd mX4_put], w ∈ xg_tb := List.forall_mem_cons.mpr ⟨(xg_mi 568 (by decide +kernel) (by decide +kernel)), List.forall_mem_cons.mpr ⟨(xg_mi 569 (by decide +kernel) (by decide +kernel)), List.forall_mem_cons.mpr ⟨(xg_mi 570 (by decide +kernel) (by decide +kernel)), List.forall_mem_cons.mpr ⟨(xg_mi 58 (by decide +kernel) (by decide +kernel)), List.forall_mem_cons.mpr ⟨(xg_mi 571 (by decide +kernel) (by decide +kernel)), fun _ h => absurd h List.not_mem_nil⟩⟩⟩⟩⟩
theorem cw_L_87 : ∀ w ∈ [Cond.methodLink RL 87 mX5_put.1, .instanceMethod mX5_put.1, .selects mX5_put.1.cls mX5_put.1 mX5_put.1, .initialized mX5_put.1.cls, xg_cd mX5_put], w ∈ xg_tb := List.forall_mem_cons.mpr ⟨(xg_mi 998 (by decide +kernel) (by decide +kernel)), List.forall_mem_cons.mpr ⟨(xg_mi 999 (by decide +kernel) (by decide +kernel)), List.forall_mem_cons.mpr ⟨(xg_mi 1000 (by decide +kernel) (by decide +kernel)), List.forall_mem_cons.mpr ⟨(xg_mi 63 (by decide +kernel) (by decide +kernel)), List.forall_mem_cons.mpr ⟨(xg_mi 1001 (by decide +kernel) (by decide +kernel)), fun _ h => absurd h List.not_mem_nil⟩⟩⟩⟩⟩
theorem cw_L_88 : ∀ w ∈ [Cond.methodLink RL 88 mX4_wipe.1, .instanceMethod mX4_wipe.1, .selects mX4_wipe.1.cls mX4_wipe.1 mX4_wipe.1, .initialized mX4_wipe.1.cls, xg_cd mX4_wipe], w ∈ xg_tb := List.forall_mem_cons.mpr ⟨(xg_mi 572 (by decide +kernel) (by decide +kernel)), List.forall_mem_cons.mpr ⟨(xg_mi 573 (by decide +kernel) (by decide +kernel)), List.forall_mem_cons.mpr ⟨(xg_mi 574 (by decide +kernel) (by decide +kernel)), List.forall_mem_cons.mpr ⟨(xg_mi 58 (by decide +kernel) (by decide +kernel)), List.forall_mem_cons.mpr ⟨(xg_mi 575 (by decide +kernel) (by decide +kernel)), fun _ h => absurd h List.not_mem_nil⟩⟩⟩⟩⟩
theorem cw_L_91 : ∀ w ∈ [Cond.methodLink RL 91 mX5_wipe.1, .instanceMethod mX5_wipe.1, .selects mX5_wipe.1.cls mX5_wipe.1 mX5_wipe.1, .initialized mX5_wipe.1.cls, xg_cd mX5_wipe], w ∈ xg_tb := List.forall_mem_cons.mpr ⟨(xg_mi 1002 (by decide +kernel) (by decide +kernel)), List.forall_mem_cons.mpr ⟨(xg_mi 1003 (by decide +kernel) (by decide +kernel)), List.forall_mem_cons.mpr ⟨(xg_mi 1004 (by decide +kernel) (by decide +kernel)), List.forall_mem_cons.mpr ⟨(xg_mi 63 (by decide +kernel) (by decide +kernel)), List.forall_mem_cons.mpr ⟨(xg_mi 1005 (by decide +kernel) (by decide +kernel)), fun _ h => absurd h List.not_mem_nil⟩⟩⟩⟩⟩
theorem cw_L_92 : ∀ w ∈ [Cond.methodLink RL 92 mX4_goes.1, .instanceMethod mX4_goes.1, .selects mX4_goes.1.cls mX4_goes.1 mX4_goes.1, .initialized mX4_goes.1.cls, xg_cd mX4_goes], w ∈ xg_tb := List.forall_mem_cons.mpr ⟨(xg_mi 576 (by decide +kernel) (by decide +kernel)), List.forall_mem_cons.mpr ⟨(xg_mi 577 (by decide +kernel) (by decide +kernel)), List.forall_mem_cons.mpr ⟨(xg_mi 578 (by decide +kernel) (by decide +kernel)), List.forall_mem_cons.mpr ⟨(xg_mi 58 (by decide +kernel) (by decide +kernel)), List.forall_mem_cons.mpr ⟨(xg_mi 579 (by decide +kernel) (by decide +kernel)), fun _ h => absurd h List.not_mem_nil⟩⟩⟩⟩⟩
theorem cw_L_95 : ∀ w ∈ [Cond.methodLink RL 95 mX5_goes.1, .instanceMethod mX5_goes.1, .selects mX5_goes.1.cls mX5_goes.1 mX5_goes.1, .initialized mX5_goes.1.cls, xg_cd mX5_goes], w ∈ xg_tb := List.forall_mem_cons.mpr ⟨(xg_mi 1006 (by decide +kernel) (by decide +kernel)), List.forall_mem_cons.mpr ⟨(xg_mi 1007 (by decide +kernel) (by decide +kernel)), List.forall_mem_cons.mpr ⟨(xg_mi 1008 (by decide +kernel) (by decide +kernel)), List.forall_mem_cons.mpr ⟨(xg_mi 63 (by decide +kernel) (by decide +kernel)), List.forall_mem_cons.mpr ⟨(xg_mi 1009 (by decide +kernel) (by decide +kernel)), fun _ h => absurd h List.not_mem_nil⟩⟩⟩⟩⟩
theorem cw_L_96 : ∀ w ∈ [Cond.methodLink RL 96 mX4_task.1, .instanceMethod mX4_task.1, .selects mX4_task.1.cls mX4_task.1 mX4_task.1, .initialized mX4_task.1.cls, xg_cd mX4_task], w ∈ xg_tb := List.forall_mem_cons.mpr ⟨(xg_mi 580 (by decide +kernel) (by decide +kernel)), List.forall_mem_cons.mpr ⟨(xg_mi 581 (by decide +kernel) (by decide +kernel)), List.forall_mem_cons.mpr ⟨(xg_mi 582 (by decide +kernel) (by decide +kernel)), List.forall_mem_cons.mpr ⟨(xg_mi 58 (by decide +kernel) (by decide +kernel)), List.forall_mem_cons.mpr ⟨(xg_mi 583 (by decide +kernel) (by decide +kernel)), fun _ h => absurd h List.not_mem_nil⟩⟩⟩⟩⟩
theorem cw_L_99 : ∀ w ∈ [Cond.methodLink RL 99 mX5_task.1, .instanceMethod mX5_task.1, .selects mX5_task.1.cls mX5_task.1 mX5_task.1, .initialized mX5_task.1.cls, xg_cd mX5_task], w ∈ xg_tb := List.forall_mem_cons.mpr ⟨(xg_mi 1010 (by decide +kernel) (by decide +kernel)), List.forall_mem_cons.mpr ⟨(xg_mi 1011 (by decide +kernel) (by decide +kernel)), List.forall_mem_cons.mpr ⟨(xg_mi 1012 (by decide +kernel) (by decide +kernel)), List.forall_mem_cons.mpr ⟨(xg_mi 63 (by decide +kernel) (by decide +kernel)), List.forall_mem_cons.mpr ⟨(xg_mi 1013 (by decide +kernel) (by decide +kernel)), fun _ h => absurd h List.not_mem_nil⟩⟩⟩⟩⟩
theorem cw_L_100 : ∀ w ∈ [Cond.methodLink RL 100 mX4_drop.1, .instanceMethod mX4_drop.1, .selects mX4_drop.1.cls mX4_drop.1 mX4_drop.1, .initialized mX4_drop.1.cls, xg_cd mX4_drop], w ∈ xg_tb := List.forall_mem_cons.mpr ⟨(xg_mi 590 (by decide +kernel) (by decide +kernel)), List.forall_mem_cons.mpr ⟨(xg_mi 591 (by decide +kernel) (by decide +kernel)), List.forall_mem_cons.mpr ⟨(xg_mi 592 (by decide +kernel) (by decide +kernel)), List.forall_mem_cons.mpr ⟨(xg_mi 58 (by decide +kernel) (by decide +kernel)), List.forall_mem_cons.mpr ⟨(xg_mi 593 (by decide +kernel) (by decide +kernel)), fun _ h => absurd h List.not_mem_nil⟩⟩⟩⟩⟩
theorem cw_L_103 : ∀ w ∈ [Cond.methodLink RL 103 mX5_drop.1, .instanceMethod mX5_drop.1, .selects mX5_drop.1.cls mX5_drop.1 mX5_drop.1, .initialized mX5_drop.1.cls, xg_cd mX5_drop], w ∈ xg_tb := List.forall_mem_cons.mpr ⟨(xg_mi 1014 (by decide +kernel) (by decide +kernel)), List.forall_mem_cons.mpr ⟨(xg_mi 1015 (by decide +kernel) (by decide +kernel)), List.forall_mem_cons.mpr ⟨(xg_mi 1016 (by decide +kernel) (by decide +kernel)), List.forall_mem_cons.mpr ⟨(xg_mi 63 (by decide +kernel) (by decide +kernel)), List.forall_mem_cons.mpr ⟨(xg_mi 1017 (by decide +kernel) (by decide +kernel)), fun _ h => absurd h List.not_mem_nil⟩⟩⟩⟩⟩
theorem cw_L_104 : ∀ w ∈ [Cond.methodLink RL 104 mX4_plan.1, .instanceMethod mX4_plan.1, .selects mX4_plan.1.cls mX4_plan.1 mX4_plan.1, .initialized mX4_plan.1.cls, xg_cd mX4_plan], w ∈ xg_tb := List.forall_mem_cons.mpr ⟨(xg_mi 594 (by decide +kernel) (by decide +kernel)), List.forall_mem_cons.mpr ⟨(xg_mi 595 (by decide +kernel) (by decide +kernel)), List.forall_mem_cons.mpr ⟨(xg_mi 596 (by decide +kernel) (by decide +kernel)), List.forall_mem_cons.mpr ⟨(xg_mi 58 (by decide +kernel) (by decide +kernel)), List.forall_mem_cons.mpr ⟨(xg_mi 597 (by decide +kernel) (by decide +kernel)), fun _ h => absurd h List.not_mem_nil⟩⟩⟩⟩⟩
theorem cw_L_107 : ∀ w ∈ [Cond.methodLink RL 107 mX5_plan.1, .instanceMethod mX5_plan.1, .selects mX5_plan.1.cls mX5_plan.1 mX5_plan.1, .initialized mX5_plan.1.cls, xg_cd mX5_plan], w ∈ xg_tb := List.forall_mem_cons.mpr ⟨(xg_mi 1018 (by decide +kernel) (by decide +kernel)), List.forall_mem_cons.mpr ⟨(xg_mi 1019 (by decide +kernel) (by decide +kernel)), List.forall_mem_cons.mpr ⟨(xg_mi 1020 (by decide +kernel) (by decide +kernel)), List.forall_mem_cons.mpr ⟨(xg_mi 63 (by decide +kernel) (by decide +kernel)), List.forall_mem_cons.mpr ⟨(xg_mi 1021 (by decide +kernel) (by decide +kernel)), fun _ h => absurd h List.not_mem_nil⟩⟩⟩⟩⟩
theorem cw_L_108 : ∀ w ∈ [Cond.methodLink RL 108 mX4_price.1, .instanceMethod mX4_price.1, .selects mX4_price.1.cls mX4_price.1 mX4_price.1, .initialized mX4_price.1.cls, xg_cd mX4_price], w ∈ xg_tb := List.forall_mem_cons.mpr ⟨(xg_mi 622 (by decide +kernel) (by decide +kernel)), List.forall_mem_cons.mpr ⟨(xg_mi 623 (by decide +kernel) (by decide +kernel)), List.forall_mem_cons.mpr ⟨(xg_mi 624 (by decide +kernel) (by decide +kernel)), List.forall_mem_cons.mpr ⟨(xg_mi 58 (by decide +kernel) (by decide +kernel)), List.forall_mem_cons.mpr ⟨(xg_mi 625 (by decide +kernel) (by decide +kernel)), fun _ h => absurd h List.not_mem_nil⟩⟩⟩⟩⟩
theorem cw_L_111 : ∀ w ∈ [Cond.methodLink RL 111 mX5_price.1, .instanceMethod mX5_price.1, .selects mX5_price.1.cls mX5_price.1 mX5_price.1, .initialized mX5_price.1.cls, xg_cd mX5_price], w ∈ xg_tb := List.forall_mem_cons.mpr ⟨(xg_mi 1052 (by decide +kernel) (by decide +kernel)), List.forall_mem_cons.mpr ⟨(xg_mi 1053 (by decide +kernel) (by decide +kernel)), List.forall_mem_cons.mpr ⟨(xg_mi 1054 (by decide +kernel) (by decide +kernel)), List.forall_mem_cons.mpr ⟨(xg_mi 63 (by decide +kernel) (by decide +kernel)), List.forall_mem_cons.mpr ⟨(xg_mi 1055 (by decide +kernel) (by decide +kernel)), fun _ h => absurd h List.not_mem_nil⟩⟩⟩⟩⟩
theorem cw_L_112 : ∀ w ∈ [Cond.methodLink RL 112 mX4_sell.1, .instanceMethod mX4_sell.1, .selects mX4_sell.1.cls mX4_sell.1 mX4_sell.1, .initialized mX4_sell.1.cls, xg_cd mX4_sell], w ∈ xg_tb := List.forall_mem_cons.mpr ⟨(xg_mi 626 (by decide +kernel) (by decide +kernel)), List.forall_mem_cons.mpr ⟨(xg_mi 627 (by decide +kernel) (by decide +kernel)), List.forall_mem_cons.mpr ⟨(xg_mi 628 (by decide +kernel) (by decide +kernel)), List.forall_mem_cons.mpr ⟨(xg_mi 58 (by decide +kernel) (by decide +kernel)), List.forall_mem_cons.mpr ⟨(xg_mi 629 (by decide +kernel) (by decide +kernel)), fun _ h => absurd h List.not_mem_nil⟩⟩⟩⟩⟩
theorem cw_L_115 : ∀ w ∈ [Cond.methodLink RL 115 mX5_sell.1, .instanceMethod mX5_sell.1, .selects mX5_sell.1.cls mX5_sell.1 mX5_sell.1, .initialized mX5_sell.1.cls, xg_cd mX5_sell], w ∈ xg_tb := List.forall_mem_cons.mpr ⟨(xg_mi 1060 (by decide +kernel) (by decide +kernel)), List.forall_mem_cons.mpr ⟨(xg_mi 1061 (by decide +kernel) (by decide +kernel)), List.forall_mem_cons.mpr ⟨(xg_mi 1062 (by decide +kernel) (by decide +kernel)), List.forall_mem_cons.mpr ⟨(xg_mi 63 (by decide +kernel) (by decide +kernel)), List.forall_mem_cons.mpr ⟨(xg_mi 1063 (by decide +kernel) (by decide +kernel)), fun _ h => absurd h List.not_mem_nil⟩⟩⟩⟩⟩
theorem cw_L_116 : ∀ w ∈ [Cond.methodLink RL 116 mX4_thief.1, .instanceMethod mX4_thief.1, .selects mX4_thief.1.cls mX4_thief.1 mX4_thief.1, .initialized mX4_thief.1.cls, xg_cd mX4_thief], w ∈ xg_tb := List.forall_mem_cons.mpr ⟨(xg_mi 630 (by decide +kernel) (by decide +kernel)), List.forall_mem_cons.mpr ⟨(xg_mi 631 (by decide +kernel) (by decide +kernel)), List.forall_mem_cons.mpr ⟨(xg_mi 632 (by decide +kernel) (by decide +kernel)), List.forall_mem_cons.mpr ⟨(xg_mi 58 (by decide +kernel) (by decide +kernel)), List.forall_mem_cons.mpr ⟨(xg_mi 633 (by decide +kernel) (by decide +kernel)), fun _ h => absurd h List.not_mem_nil⟩⟩⟩⟩⟩
theorem cw_L_119 : ∀ w ∈ [Cond.methodLink RL 119 mX5_thief.1, .instanceMethod mX5_thief.1, .selects mX5_thief.1.cls mX5_thief.1 mX5_thief.1, .initialized mX5_thief.1.cls, xg_cd mX5_thief], w ∈ xg_tb := List.forall_mem_cons.mpr ⟨(xg_mi 1064 (by decide +kernel) (by decide +kernel)), List.forall_mem_cons.mpr ⟨(xg_mi 1065 (by decide +kernel) (by decide +kernel)), List.forall_mem_cons.mpr ⟨(xg_mi 1066 (by decide +kernel) (by decide +kernel)), List.forall_mem_cons.mpr ⟨(xg_mi 63 (by decide +kernel) (by decide +kernel)), List.forall_mem_cons.mpr ⟨(xg_mi 1067 (by decide +kernel) (by decide +kernel)), fun _ h => absurd h List.not_mem_nil⟩⟩⟩⟩⟩
theorem cw_L_120 : ∀ w ∈ [Cond.methodLink RL 120 mX4_look.1, .instanceMethod mX4_look.1, .selects mX4_look.1.cls mX4_look.1 mX4_look.1, .initialized mX4_look.1.cls, xg_cd mX4_look], w ∈ xg_tb := List.forall_mem_cons.mpr ⟨(xg_mi 645 (by decide +kernel) (by decide +kernel)), List.forall_mem_cons.mpr ⟨(xg_mi 646 (by decide +kernel) (by decide +kernel)), List.forall_mem_cons.mpr ⟨(xg_mi 647 (by decide +kernel) (by decide +kernel)), List.forall_mem_cons.mpr ⟨(xg_mi 58 (by decide +kernel) (by decide +kernel)), List.forall_mem_cons.mpr ⟨(xg_mi 648 (by decide +kernel) (by decide +kernel)), fun _ h => absurd h List.not_mem_nil⟩⟩⟩⟩⟩
theorem cw_L_124 : ∀ w ∈ [Cond.methodLink RL 124 mX5_look.1, .instanceMethod mX5_look.1, .selects mX5_look.1.cls mX5_look.1 mX5_look.1, .initialized mX5_look.1.cls, xg_cd mX5_look], w ∈ xg_tb := List.forall_mem_cons.mpr ⟨(xg_mi 1072 (by decide +kernel) (by decide +kernel)), List.forall_mem_cons.mpr ⟨(xg_mi 1073 (by decide +kernel) (by decide +kernel)), List.forall_mem_cons.mpr ⟨(xg_mi 1074 (by decide +kernel) (by decide +kernel)), List.forall_mem_cons.mpr ⟨(xg_mi 63 (by decide +kernel) (by decide +kernel)), List.forall_mem_cons.mpr ⟨(xg_mi 1075 (by decide +kernel) (by decide +kernel)), fun _ h => absurd h List.not_mem_nil⟩⟩⟩⟩⟩
theorem cw_L_125 : ∀ w ∈ [Cond.methodLink RL 125 mX4_forget.1, .instanceMethod mX4_forget.1, .selects mX4_forget.1.cls mX4_forget.1 mX4_forget.1, .initialized mX4_forget.1.cls, xg_cd mX4_forget], w ∈ xg_tb := List.forall_mem_cons.mpr ⟨(xg_mi 649 (by decide +kernel) (by decide +kernel)), List.forall_mem_cons.mpr ⟨(xg_mi 650 (by decide +kernel) (by decide +kernel)), List.forall_mem_cons.mpr ⟨(xg_mi 651 (by decide +kernel) (by decide +kernel)), List.forall_mem_cons.mpr ⟨(xg_mi 58 (by decide +kernel) (by decide +kernel)), List.forall_mem_cons.mpr ⟨(xg_mi 652 (by decide +kernel) (by decide +kernel)), fun _ h => absurd h List.not_mem_nil⟩⟩⟩⟩⟩
theorem cw_L_128 : ∀ w ∈ [Cond.methodLink RL 128 mX5_forget.1, .instanceMethod mX5_forget.1, .selects mX5_forget.1.cls mX5_forget.1 mX5_forget.1, .initialized mX5_forget.1.cls, xg_cd mX5_forget], w ∈ xg_tb := List.forall_mem_cons.mpr ⟨(xg_mi 1076 (by decide +kernel) (by decide +kernel)), List.forall_mem_cons.mpr ⟨(xg_mi 1077 (by decide +kernel) (by decide +kernel)), List.forall_mem_cons.mpr ⟨(xg_mi 1078 (by decide +kernel) (by decide +kernel)), List.forall_mem_cons.mpr ⟨(xg_mi 63 (by decide +kernel) (by decide +kernel)), List.forall_mem_cons.mpr ⟨(xg_mi 1079 (by decide +kernel) (by decide +kernel)), fun _ h => absurd h List.not_mem_nil⟩⟩⟩⟩⟩
theorem cw_L_129 : ∀ w ∈ [Cond.methodLink RL 129 mX4_fit.1, .instanceMethod mX4_fit.1, .selects mX4_fit.1.cls mX4_fit.1 mX4_fit.1, .initialized mX4_fit.1.cls, xg_cd mX4_fit], w ∈ xg_tb := List.forall_mem_cons.mpr ⟨(xg_mi 653 (by decide +kernel) (by decide +kernel)), List.forall_mem_cons.mpr ⟨(xg_mi 654 (by decide +kernel) (by decide +kernel)), List.forall_mem_cons.mpr ⟨(xg_mi 655 (by decide +kernel) (by decide +kernel)), List.forall_mem_cons.mpr ⟨(xg_mi 58 (by decide +kernel) (by decide +kernel)), List.forall_mem_cons.mpr ⟨(xg_mi 656 (by decide +kernel) (by decide +kernel)), fun _ h => absurd h List.not_mem_nil⟩⟩⟩⟩⟩
theorem cw_L_132 : ∀ w ∈ [Cond.methodLink RL 132 mX5_fit.1, .instanceMethod mX5_fit.1, .selects mX5_fit.1.cls mX5_fit.1 mX5_fit.1, .initialized mX5_fit.1.cls, xg_cd mX5_fit], w ∈ xg_tb := List.forall_mem_cons.mpr ⟨(xg_mi 1080 (by decide +kernel) (by decide +kernel)), List.forall_mem_cons.mpr ⟨(xg_mi 1081 (by decide +kernel) (by decide +kernel)), List.forall_mem_cons.mpr ⟨(xg_mi 1082 (by decide +kernel) (by decide +kernel)), List.forall_mem_cons.mpr ⟨(xg_mi 63 (by decide +kernel) (by decide +kernel)), List.forall_mem_cons.mpr ⟨(xg_mi 1083 (by decide +kernel) (by decide +kernel)), fun _ h => absurd h List.not_mem_nil⟩⟩⟩⟩⟩
theorem cw_L_133 : ∀ w ∈ [Cond.methodLink RL 133 mX4_baths.1, .instanceMethod mX4_baths.1, .selects mX4_baths.1.cls mX4_baths.1 mX4_baths.1, .initialized mX4_baths.1.cls, xg_cd mX4_baths], w ∈ xg_tb := List.forall_mem_cons.mpr ⟨(xg_mi 666 (by decide +kernel) (by decide +kernel)), List.forall_mem_cons.mpr ⟨(xg_mi 667 (by decide +kernel) (by decide +kernel)), List.forall_mem_cons.mpr ⟨(xg_mi 668 (by decide +kernel) (by decide +kernel)), List.forall_mem_cons.mpr ⟨(xg_mi 58 (by decide +kernel) (by decide +kernel)), List.forall_mem_cons.mpr ⟨(xg_mi 669 (by decide +kernel) (by decide +kernel)), fun _ h => absurd h List.not_mem_nil⟩⟩⟩⟩⟩
theorem cw_L_136 : ∀ w ∈ [Cond.methodLink RL 136 mX5_baths.1, .instanceMethod mX5_baths.1, .selects mX5_baths.1.cls mX5_baths.1 mX5_baths.1, .initialized mX5_baths.1.cls, xg_cd mX5_baths], w ∈ xg_tb := List.forall_mem_cons.mpr ⟨(xg_mi 1088 (by decide +kernel) (by decide +kernel)), List.forall_mem_cons.mpr ⟨(xg_mi 1089 (by decide +kernel) (by decide +kernel)), List.forall_mem_cons.mpr ⟨(xg_mi 1090 (by decide +kernel) (by decide +kernel)), List.forall_mem_cons.mpr ⟨(xg_mi 63 (by decide +kernel) (by decide +kernel)), List.forall_mem_cons.mpr ⟨(xg_mi 1091 (by decide +kernel) (by decide +kernel)), fun _ h => absurd h List.not_mem_nil⟩⟩⟩⟩⟩
theorem cw_L_137 : ∀ w ∈ [Cond.methodLink RL 137 mX4_slips.1, .instanceMethod mX4_slips.1, .selects mX4_slips.1.cls mX4_slips.1 mX4_slips.1, .initialized mX4_slips.1.cls, xg_cd mX4_slips], w ∈ xg_tb := List.forall_mem_cons.mpr ⟨(xg_mi 678 (by decide +kernel) (by decide +kernel)), List.forall_mem_cons.mpr ⟨(xg_mi 679 (by decide +kernel) (by decide +kernel)), List.forall_mem_cons.mpr ⟨(xg_mi 680 (by decide +kernel) (by decide +kernel)), List.forall_mem_cons.mpr ⟨(xg_mi 58 (by decide +kernel) (by decide +kernel)), List.forall_mem_cons.mpr ⟨(xg_mi 681 (by decide +kernel) (by decide +kernel)), fun _ h => absurd h List.not_mem_nil⟩⟩⟩⟩⟩
theorem cw_L_141 : ∀ w ∈ [Cond.methodLink RL 141 mX5_slips.1, .instanceMethod mX5_slips.1, .selects mX5_slips.1.cls mX5_slips.1 mX5_slips.1, .initialized mX5_slips.1.cls, xg_cd mX5_slips], w ∈ xg_tb := List.forall_mem_cons.mpr ⟨(xg_mi 1095 (by decide +kernel) (by decide +kernel)), List.forall_mem_cons.mpr ⟨(xg_mi 1096 (by decide +kernel) (by decide +kernel)), List.forall_mem_cons.mpr ⟨(xg_mi 1097 (by decide +kernel) (by decide +kernel)), List.forall_mem_cons.mpr ⟨(xg_mi 63 (by decide +kernel) (by decide +kernel)), List.forall_mem_cons.mpr ⟨(xg_mi 1098 (by decide +kernel) (by decide +kernel)), fun _ h => absurd h List.not_mem_nil⟩⟩⟩⟩⟩
theorem cw_L_142 : ∀ w ∈ [Cond.methodLink RL 142 mX4_count.1, .instanceMethod mX4_count.1, .selects mX4_count.1.cls mX4_count.1 mX4_count.1, .initialized mX4_count.1.cls, xg_cd mX4_count], w ∈ xg_tb := List.forall_mem_cons.mpr ⟨(xg_mi 689 (by decide +kernel) (by decide +kernel)), List.forall_mem_cons.mpr ⟨(xg_mi 690 (by decide +kernel) (by decide +kernel)), List.forall_mem_cons.mpr ⟨(xg_mi 691 (by decide +kernel) (by decide +kernel)), List.forall_mem_cons.mpr ⟨(xg_mi 58 (by decide +kernel) (by decide +kernel)), List.forall_mem_cons.mpr ⟨(xg_mi 692 (by decide +kernel) (by decide +kernel)), fun _ h => absurd h List.not_mem_nil⟩⟩⟩⟩⟩
theorem cw_L_145 : ∀ w ∈ [Cond.methodLink RL 145 mX5_count.1, .instanceMethod mX5_count.1, .selects mX5_count.1.cls mX5_count.1 mX5_count.1, .initialized mX5_count.1.cls, xg_cd mX5_count], w ∈ xg_tb := List.forall_mem_cons.mpr ⟨(xg_mi 1100 (by decide +kernel) (by decide +kernel)), List.forall_mem_cons.mpr ⟨(xg_mi 1101 (by decide +kernel) (by decide +kernel)), List.forall_mem_cons.mpr ⟨(xg_mi 1102 (by decide +kernel) (by decide +kernel)), List.forall_mem_cons.mpr ⟨(xg_mi 63 (by decide +kernel) (by decide +kernel)), List.forall_mem_cons.mpr ⟨(xg_mi 1103 (by decide +kernel) (by decide +kernel)), fun _ h => absurd h List.not_mem_nil⟩⟩⟩⟩⟩
section LAW0
variable {σ : xm_M}
theorem mI_write (hi : Inv σ σ) (x : Int32) : Inv σ (f_write σ x).2 := Inv_M hi (fun c hc => fN_write hc)
theorem sA_write (hi : Inv σ σ) (x : Int32) : (f_write σ x).1 = (g_write (f_write σ x).2 x).1 := (eq_write (mI_write hi x) x).1
theorem sI_write (hi : Inv σ σ) (x : Int32) : Inv (g_write (f_write σ x).2 x).2 (g_write (f_write σ x).2 x).2 := Inv_X (eq_write (mI_write hi x) x).2 (fun c hc => gN_write hc)
theorem mI_touch (hi : Inv σ σ) (x : Int32) : Inv σ (f_touch σ x).2 := Inv_M hi (fun c hc => fN_touch (iX_vPa hi) hc)
theorem sA_touch (hi : Inv σ σ) (x : Int32) : (f_touch σ x).1 = (g_touch (f_touch σ x).2 x).1 := (eq_touch (mI_touch hi x) x).1
theorem sI_touch (hi : Inv σ σ) (x : Int32) : Inv (g_touch (f_touch σ x).2 x).2 (g_touch (f_touch σ x).2 x).2 := Inv_X (eq_touch (mI_touch hi x) x).2 (fun c hc => gN_touch hc)
theorem mI_by (hi : Inv σ σ) (x y : Int32) : Inv σ (f_by σ x y).2 := Inv_M hi (fun c hc => fN_by (iX_vPa hi) hc)
theorem sA_by (hi : Inv σ σ) (x y : Int32) : (f_by σ x y).1 = (g_by (f_by σ x y).2 x y).1 := (eq_by (mI_by hi x y) x y).1
theorem sI_by (hi : Inv σ σ) (x y : Int32) : Inv (g_by (f_by σ x y).2 x y).2 (g_by (f_by σ x y).2 x y).2 := Inv_X (eq_by (mI_by hi x y) x y).2 (fun c hc => gN_by hc)
theorem mI_eat (hi : Inv σ σ) (x y : Int32) : Inv σ (f_eat σ x y).2 := Inv_M hi (fun c hc => fN_eat (iX_vPa hi) hc)
theorem sA_eat (hi : Inv σ σ) (x y : Int32) : (f_eat σ x y).1 = (g_eat (f_eat σ x y).2 x y).1 := (eq_eat (mI_eat hi x y) x y).1
theorem sI_eat (hi : Inv σ σ) (x y : Int32) : Inv (g_eat (f_eat σ x y).2 x y).2 (g_eat (f_eat σ x y).2 x y).2 := Inv_X (eq_eat (mI_eat hi x y) x y).2 (fun c hc => gN_eat hc)
theorem mI_bathe (hi : Inv σ σ) : Inv σ (f_bathe σ).2 := Inv_M hi (fun c hc => fN_bathe (iX_vPa hi) hc)
theorem sA_bathe (hi : Inv σ σ) : (f_bathe σ).1 = (g_bathe (f_bathe σ).2).1 := (eq_bathe (mI_bathe hi)).1
theorem sI_bathe (hi : Inv σ σ) : Inv (g_bathe (f_bathe σ).2).2 (g_bathe (f_bathe σ).2).2 := Inv_X (eq_bathe (mI_bathe hi)).2 (fun c hc => gN_bathe hc)
theorem mI_idle (hi : Inv σ σ) : Inv σ (f_idle σ).2 := Inv_M hi (fun c hc => fN_idle (iX_vPa hi) hc)
theorem sA_idle (hi : Inv σ σ) : (f_idle σ).1 = (g_idle (f_idle σ).2).1 := (eq_idle (mI_idle hi)).1
theorem sI_idle (hi : Inv σ σ) : Inv (g_idle (f_idle σ).2).2 (g_idle (f_idle σ).2).2 := Inv_X (eq_idle (mI_idle hi)).2 (fun c hc => gN_idle hc)
theorem mI_undo (hi : Inv σ σ) : Inv σ (f_undo σ).2 := Inv_M hi (fun c hc => fN_undo hc)
theorem sA_undo (hi : Inv σ σ) : (f_undo σ).1 = (g_undo (f_undo σ).2).1 := (eq_undo (mI_undo hi)).1
theorem sI_undo (hi : Inv σ σ) : Inv (g_undo (f_undo σ).2).2 (g_undo (f_undo σ).2).2 := Inv_X (eq_undo (mI_undo hi)).2 (fun c hc => gN_undo hc)
theorem mI_keep (hi : Inv σ σ) (x : Int32) : Inv σ (f_keep σ x).2 := Inv_M hi (fun c hc => fN_keep hc)
theorem sA_keep (hi : Inv σ σ) (x : Int32) : (f_keep σ x).1 = (g_keep (f_keep σ x).2 x).1 := (eq_keep (mI_keep hi x) x).1
theorem sI_keep (hi : Inv σ σ) (x : Int32) : Inv (g_keep (f_keep σ x).2 x).2 (g_keep (f_keep σ x).2 x).2 := Inv_X (eq_keep (mI_keep hi x) x).2 (fun c hc => gN_keep hc)
theorem mI_back (hi : Inv σ σ) (x : Int32) : Inv σ (f_back σ x).2 := Inv_M hi (fun c hc => fN_back hc)
theorem sA_back (hi : Inv σ σ) (x : Int32) : (f_back σ x).1 = (g_back (f_back σ x).2 x).1 := (eq_back (mI_back hi x) x).1
theorem sI_back (hi : Inv σ σ) (x : Int32) : Inv (g_back (f_back σ x).2 x).2 (g_back (f_back σ x).2 x).2 := Inv_X (eq_back (mI_back hi x) x).2 (fun c hc => gN_back hc)
theorem mI_put (hi : Inv σ σ) (x : Int32) : Inv σ (f_put σ x).2 := Inv_M hi (fun c hc => fN_put hc)
theorem sA_put (hi : Inv σ σ) (x : Int32) : (f_put σ x).1 = (g_put (f_put σ x).2 x).1 := (eq_put (mI_put hi x) x).1
theorem sI_put (hi : Inv σ σ) (x : Int32) : Inv (g_put (f_put σ x).2 x).2 (g_put (f_put σ x).2 x).2 := Inv_X (eq_put (mI_put hi x) x).2 (fun c hc => gN_put hc)
theorem mI_task (hi : Inv σ σ) (x : Int32) : Inv σ (f_task σ x).2 := Inv_M hi (fun c hc => fN_task hc)
theorem sA_task (hi : Inv σ σ) (x : Int32) : (f_task σ x).1 = (g_task (f_task σ x).2 x).1 := (eq_task (mI_task hi x) x).1
theorem sI_task (hi : Inv σ σ) (x : Int32) : Inv (g_task (f_task σ x).2 x).2 (g_task (f_task σ x).2 x).2 := Inv_X (eq_task (mI_task hi x) x).2 (fun c hc => gN_task hc)
theorem mI_look (hi : Inv σ σ) (x y z : Int32) : Inv σ (f_look σ x y z).2 := Inv_M hi (fun c hc => fN_look hc)
theorem sA_look (hi : Inv σ σ) (x y z : Int32) : (f_look σ x y z).1 = (g_look (f_look σ x y z).2 x y z).1 := (eq_look (mI_look hi x y z) x y z).1
theorem sI_look (hi : Inv σ σ) (x y z : Int32) : Inv (g_look (f_look σ x y z).2 x y z).2 (g_look (f_look σ x y z).2 x y z).2 := Inv_X (eq_look (mI_look hi x y z) x y z).2 (fun c hc => gN_look hc)
theorem mI_fault (hi : Inv σ σ) : Inv σ (f_fault σ).2 := Inv_M hi (fun c hc => fN_fault hi hc)
theorem sA_fault (hi : Inv σ σ) : (f_fault σ).1 = (g_fault (f_fault σ).2).1 := (eq_fault (mI_fault hi)).1
theorem sI_fault (hi : Inv σ σ) : Inv (g_fault (f_fault σ).2).2 (g_fault (f_fault σ).2).2 := Inv_X (eq_fault (mI_fault hi)).2 (fun c hc => gN_fault (mI_fault hi) hc)
theorem mI_court (hi : Inv σ σ) : Inv σ (f_court σ).2 := Inv_M hi (fun c hc => fN_court hi hc)
theorem sA_court (hi : Inv σ σ) : (f_court σ).1 = (g_court (f_court σ).2).1 := (eq_court (mI_court hi)).1
theorem sI_court (hi : Inv σ σ) : Inv (g_court (f_court σ).2).2 (g_court (f_court σ).2).2 := Inv_X (eq_court (mI_court hi)).2 (fun c hc => gN_court (mI_court hi) hc)
theorem mI_erase (hi : Inv σ σ) : Inv σ (xm_set σ 13 1 0) := Inv_M hi (fun c hc => xsN (by omega))
theorem sA_erase (hi : Inv σ σ) : σ.1 13 1 = (xm_set σ 13 1 0).1 36 6 := (eq_erase (mI_erase hi)).1
theorem sI_erase (hi : Inv σ σ) : Inv (xm_set (xm_set σ 13 1 0) 36 6 0) (xm_set (xm_set σ 13 1 0) 36 6 0) := Inv_X (eq_erase (mI_erase hi)).2 (fun c hc => xsN (by omega))
theorem mI_wipe (hi : Inv σ σ) : Inv σ (xm_set σ 0 10 0) := Inv_M hi (fun c hc => xsN (by omega))
theorem sA_wipe (hi : Inv σ σ) : σ.1 0 10 = (xm_set σ 0 10 0).1 36 24 := (eq_wipe (mI_wipe hi)).1
theorem sI_wipe (hi : Inv σ σ) : Inv (xm_set (xm_set σ 0 10 0) 36 24 0) (xm_set (xm_set σ 0 10 0) 36 24 0) := Inv_X (eq_wipe (mI_wipe hi)).2 (fun c hc => xsN (by omega))
theorem mI_drop (hi : Inv σ σ) : Inv σ (xm_set σ 0 11 0) := Inv_M hi (fun c hc => xsN (by omega))
theorem sA_drop (hi : Inv σ σ) : bcJ (σ.1 0 11) = (xm_set σ 0 11 0).1 36 26 := (eq_drop (mI_drop hi)).1
theorem sI_drop (hi : Inv σ σ) : Inv (xm_set (xm_set σ 0 11 0) 36 26 0) (xm_set (xm_set σ 0 11 0) 36 26 0) := Inv_X (eq_drop (mI_drop hi)).2 (fun c hc => xsN (by omega))
theorem mI_forget (hi : Inv σ σ) : Inv σ (xm_set σ 0 16 0) := Inv_M hi (fun c hc => xsN (by omega))
theorem sA_forget (hi : Inv σ σ) : σ.1 0 16 = (xm_set σ 0 16 0).1 36 28 := (eq_forget (mI_forget hi)).1
theorem sI_forget (hi : Inv σ σ) : Inv (xm_set (xm_set σ 0 16 0) 36 28 0) (xm_set (xm_set σ 0 16 0) 36 28 0) := Inv_X (eq_forget (mI_forget hi)).2 (fun c hc => xsN (by omega))
end LAW0
section LAW
variable {σ : xm_M} {Q : Option Value → xm_M → Prop} {L i : Nat} {f : Nat → Int32}
/-- the law's locals -/
def lwL (i : Nat) : List (Nat × Value) := [(3, .int (nI i)), (2, .ref 36), (1, .ref 0), (0, .ref 110)]
/-- behind a call the law goes on -/
def lwT (L : Nat) (f : Nat → Int32) (i : Nat) (Q : Option Value → xm_M → Prop) : Prop := ∀ τ, Inv τ τ → xg_X (some (L, f)) 32 mL_law 943 (lwL i) [] τ Q
def lwV (L i : Nat) : Prop := vp_in (nI i) L ∧ vp_in (nI i + 1) L ∧ vp_in (nI i + 2) L ∧ vp_in (nI i + 3) L ∧ vp_in (nI i + 4) L
theorem lc_write (hi : Inv σ σ) (hv : lwV L i) (tail : lwT L f i Q) : xg_X (some (L, f)) 32 mL_law 176 (lwL i) [] σ Q := by
  unfold lwT at tail
  unfold lwL at *
  refine X_aldn2 177 dL_law_176 rfl rfl ?_
  refine X_aldn3 178 dL_law_177 rfl rfl ?_
  refine X_ildn0 179 dL_law_178 rfl rfl ?_
  refine X_iconst 1 180 dL_law_179 (by decide) rfl ?_
  refine X_iadd 181 dL_law_180 rfl ?_
  refine X_sald 182 dL_law_181 rfl (by first | exact hv.2.1 | exact hv.2.2.1 | exact hv.2.2.2.1 | exact hv.2.2.2.2) ?_
  refine X_callV1 4 185 dL_law_182 cw_L_13 zk_X4_write ⟨rfl, rfl⟩ rfl rfl rfl (S_X4_write (iX_vT hi) ?_)
  refine X_pu ?_
  refine X_aldn1 186 dL_law_185 rfl rfl ?_
  refine X_aldn3 187 dL_law_186 rfl rfl ?_
  refine X_ildn0 188 dL_law_187 rfl rfl ?_
  refine X_iconst 1 189 dL_law_188 (by decide) rfl ?_
  refine X_iadd 190 dL_law_189 rfl ?_
  refine X_sald 191 dL_law_190 rfl (by first | exact hv.2.1 | exact hv.2.2.1 | exact hv.2.2.2.1 | exact hv.2.2.2.2) ?_
  refine X_callV1 5 194 dL_law_191 cw_L_17 zk_X5_write ⟨rfl, rfl⟩ rfl rfl rfl (S_X5_write (iM_vTm (mI_write hi _)) ?_)
  refine X_pu ?_
  refine X_iceq 943 197 dL_law_194 (by decide) rfl (fun c194 => ?_) (fun c194 => ?_)
  · exact tail _ (sI_write hi _)
  · exact absurd (sA_write hi _) c194
theorem lc_erase (hi : Inv σ σ) (hv : lwV L i) (tail : lwT L f i Q) : xg_X (some (L, f)) 32 mL_law 199 (lwL i) [] σ Q := by
  unfold lwT at tail
  unfold lwL at *
  refine X_aldn2 200 dL_law_199 rfl rfl ?_
  refine X_callV0 4 203 dL_law_200 cw_L_18 zk_X4_erase ⟨rfl, rfl⟩ rfl rfl rfl (S_X4_erase ?_)
  refine X_pu ?_
  refine X_aldn1 204 dL_law_203 rfl rfl ?_
  refine X_callV0 5 207 dL_law_204 cw_L_22 zk_X5_erase ⟨rfl, rfl⟩ rfl rfl rfl (S_X5_erase ?_)
  refine X_pu ?_
  refine X_iceq 943 210 dL_law_207 (by decide) rfl (fun c207 => ?_) (fun c207 => ?_)
  · exact tail _ (sI_erase hi)
  · exact absurd (sA_erase hi) c207
theorem lc_fault (hi : Inv σ σ) (hv : lwV L i) (tail : lwT L f i Q) : xg_X (some (L, f)) 32 mL_law 212 (lwL i) [] σ Q := by
  unfold lwT at tail
  unfold lwL at *
  refine X_aldn2 213 dL_law_212 rfl rfl ?_
  refine X_callV0 4 216 dL_law_213 cw_L_23 zk_X4_fault ⟨rfl, rfl⟩ rfl rfl rfl (S_X4_fault (iX_vT hi) (iX_vX hi) ?_)
  refine X_pu ?_
  refine X_aldn1 217 dL_law_216 rfl rfl ?_
  refine X_callV0 5 220 dL_law_217 cw_L_26 zk_X5_fault ⟨rfl, rfl⟩ rfl rfl rfl (S_X5_fault (iM_vTm (mI_fault hi)) ?_)
  refine X_pu ?_
  refine X_iceq 943 223 dL_law_220 (by decide) rfl (fun c220 => ?_) (fun c220 => ?_)
  · exact tail _ (sI_fault hi)
  · exact absurd (sA_fault hi) c220
theorem lc_court (hi : Inv σ σ) (hv : lwV L i) (tail : lwT L f i Q) : xg_X (some (L, f)) 32 mL_law 225 (lwL i) [] σ Q := by
  unfold lwT at tail
  unfold lwL at *
  refine X_aldn2 226 dL_law_225 rfl rfl ?_
  refine X_callV0 4 229 dL_law_226 cw_L_27 zk_X4_court ⟨rfl, rfl⟩ rfl rfl rfl (S_X4_court (iX_vT hi) (iX_vX hi) ?_)
  refine X_pu ?_
  refine X_aldn1 230 dL_law_229 rfl rfl ?_
  refine X_callV0 5 233 dL_law_230 cw_L_30 zk_X5_court ⟨rfl, rfl⟩ rfl rfl rfl (S_X5_court (iM_vTm (mI_court hi)) (court_pre (mI_court hi)) ?_)
  refine X_pu ?_
  refine X_iceq 943 236 dL_law_233 (by decide) rfl (fun c233 => ?_) (fun c233 => ?_)
  · exact tail _ (sI_court hi)
  · exact absurd (sA_court hi) c233
theorem lc_thing (hi : Inv σ σ) (hv : lwV L i) (tail : lwT L f i Q) : xg_X (some (L, f)) 32 mL_law 238 (lwL i) [] σ Q := by
  unfold lwT at tail
  unfold lwL at *
  refine X_aldn2 239 dL_law_238 rfl rfl ?_
  refine X_aldn3 240 dL_law_239 rfl rfl ?_
  refine X_ildn0 241 dL_law_240 rfl rfl ?_
  refine X_iconst 1 242 dL_law_241 (by decide) rfl ?_
  refine X_iadd 243 dL_law_242 rfl ?_
  refine X_sald 244 dL_law_243 rfl (by first | exact hv.2.1 | exact hv.2.2.1 | exact hv.2.2.2.1 | exact hv.2.2.2.2) ?_
  refine X_aldn3 245 dL_law_244 rfl rfl ?_
  refine X_ildn0 246 dL_law_245 rfl rfl ?_
  refine X_iconst 2 247 dL_law_246 (by decide) rfl ?_
  refine X_iadd 248 dL_law_247 rfl ?_
  refine X_sald 249 dL_law_248 rfl (by first | exact hv.2.1 | exact hv.2.2.1 | exact hv.2.2.2.1 | exact hv.2.2.2.2) ?_
  refine X_callV2 4 252 dL_law_249 cw_L_31 zk_X4_thing ⟨rfl, rfl⟩ rfl rfl rfl (S_X4_thing (iX_vX hi) ?_)
  refine X_pu ?_
  refine X_aldn1 253 dL_law_252 rfl rfl ?_
  refine X_aldn3 254 dL_law_253 rfl rfl ?_
  refine X_ildn0 255 dL_law_254 rfl rfl ?_
  refine X_iconst 1 256 dL_law_255 (by decide) rfl ?_
  refine X_iadd 257 dL_law_256 rfl ?_
  refine X_sald 258 dL_law_257 rfl (by first | exact hv.2.1 | exact hv.2.2.1 | exact hv.2.2.2.1 | exact hv.2.2.2.2) ?_
  refine X_aldn3 259 dL_law_258 rfl rfl ?_
  refine X_ildn0 260 dL_law_259 rfl rfl ?_
  refine X_iconst 2 261 dL_law_260 (by decide) rfl ?_
  refine X_iadd 262 dL_law_261 rfl ?_
  refine X_sald 263 dL_law_262 rfl (by first | exact hv.2.1 | exact hv.2.2.1 | exact hv.2.2.2.1 | exact hv.2.2.2.2) ?_
  refine X_callV2 5 266 dL_law_263 cw_L_35 zk_X5_thing ⟨rfl, rfl⟩ rfl rfl rfl (S_X5_thing (iM_vXm hi) ?_)
  refine X_pu ?_
  refine X_iceq 943 269 dL_law_266 (by decide) rfl (fun c266 => ?_) (fun c266 => ?_)
  · exact tail _ hi
  · exact absurd (eq_thing hi _ _) c266
theorem lc_as (hi : Inv σ σ) (hv : lwV L i) (tail : lwT L f i Q) : xg_X (some (L, f)) 32 mL_law 271 (lwL i) [] σ Q := by
  unfold lwT at tail
  unfold lwL at *
  refine X_aldn2 272 dL_law_271 rfl rfl ?_
  refine X_aldn3 273 dL_law_272 rfl rfl ?_
  refine X_ildn0 274 dL_law_273 rfl rfl ?_
  refine X_iconst 1 275 dL_law_274 (by decide) rfl ?_
  refine X_iadd 276 dL_law_275 rfl ?_
  refine X_sald 277 dL_law_276 rfl (by first | exact hv.2.1 | exact hv.2.2.1 | exact hv.2.2.2.1 | exact hv.2.2.2.2) ?_
  refine X_aldn3 278 dL_law_277 rfl rfl ?_
  refine X_ildn0 279 dL_law_278 rfl rfl ?_
  refine X_iconst 2 280 dL_law_279 (by decide) rfl ?_
  refine X_iadd 281 dL_law_280 rfl ?_
  refine X_sald 282 dL_law_281 rfl (by first | exact hv.2.1 | exact hv.2.2.1 | exact hv.2.2.2.1 | exact hv.2.2.2.2) ?_
  refine X_callV2 4 285 dL_law_282 cw_L_36 zk_X4_as ⟨rfl, rfl⟩ rfl rfl rfl (S_X4_as (iX_vX hi) ?_)
  refine X_pu ?_
  refine X_aldn1 286 dL_law_285 rfl rfl ?_
  refine X_aldn3 287 dL_law_286 rfl rfl ?_
  refine X_ildn0 288 dL_law_287 rfl rfl ?_
  refine X_iconst 1 289 dL_law_288 (by decide) rfl ?_
  refine X_iadd 290 dL_law_289 rfl ?_
  refine X_sald 291 dL_law_290 rfl (by first | exact hv.2.1 | exact hv.2.2.1 | exact hv.2.2.2.1 | exact hv.2.2.2.2) ?_
  refine X_aldn3 292 dL_law_291 rfl rfl ?_
  refine X_ildn0 293 dL_law_292 rfl rfl ?_
  refine X_iconst 2 294 dL_law_293 (by decide) rfl ?_
  refine X_iadd 295 dL_law_294 rfl ?_
  refine X_sald 296 dL_law_295 rfl (by first | exact hv.2.1 | exact hv.2.2.1 | exact hv.2.2.2.1 | exact hv.2.2.2.2) ?_
  refine X_callV2 5 299 dL_law_296 cw_L_39 zk_X5_as ⟨rfl, rfl⟩ rfl rfl rfl (S_X5_as (iM_vXm hi) ?_)
  refine X_pu ?_
  refine X_iceq 943 302 dL_law_299 (by decide) rfl (fun c299 => ?_) (fun c299 => ?_)
  · exact tail _ hi
  · exact absurd (eq_as hi _ _) c299
theorem lc_floor (hi : Inv σ σ) (hv : lwV L i) (tail : lwT L f i Q) : xg_X (some (L, f)) 32 mL_law 304 (lwL i) [] σ Q := by
  unfold lwT at tail
  unfold lwL at *
  refine X_aldn2 305 dL_law_304 rfl rfl ?_
  refine X_aldn3 306 dL_law_305 rfl rfl ?_
  refine X_ildn0 307 dL_law_306 rfl rfl ?_
  refine X_iconst 1 308 dL_law_307 (by decide) rfl ?_
  refine X_iadd 309 dL_law_308 rfl ?_
  refine X_sald 310 dL_law_309 rfl (by first | exact hv.2.1 | exact hv.2.2.1 | exact hv.2.2.2.1 | exact hv.2.2.2.2) ?_
  refine X_aldn3 311 dL_law_310 rfl rfl ?_
  refine X_ildn0 312 dL_law_311 rfl rfl ?_
  refine X_iconst 2 313 dL_law_312 (by decide) rfl ?_
  refine X_iadd 314 dL_law_313 rfl ?_
  refine X_sald 315 dL_law_314 rfl (by first | exact hv.2.1 | exact hv.2.2.1 | exact hv.2.2.2.1 | exact hv.2.2.2.2) ?_
  refine X_callV2 4 318 dL_law_315 cw_L_40 zk_X4_floor ⟨rfl, rfl⟩ rfl rfl rfl (S_X4_floor (iX_vX hi) ?_)
  refine X_pu ?_
  refine X_aldn1 319 dL_law_318 rfl rfl ?_
  refine X_aldn3 320 dL_law_319 rfl rfl ?_
  refine X_ildn0 321 dL_law_320 rfl rfl ?_
  refine X_iconst 1 322 dL_law_321 (by decide) rfl ?_
  refine X_iadd 323 dL_law_322 rfl ?_
  refine X_sald 324 dL_law_323 rfl (by first | exact hv.2.1 | exact hv.2.2.1 | exact hv.2.2.2.1 | exact hv.2.2.2.2) ?_
  refine X_aldn3 325 dL_law_324 rfl rfl ?_
  refine X_ildn0 326 dL_law_325 rfl rfl ?_
  refine X_iconst 2 327 dL_law_326 (by decide) rfl ?_
  refine X_iadd 328 dL_law_327 rfl ?_
  refine X_sald 329 dL_law_328 rfl (by first | exact hv.2.1 | exact hv.2.2.1 | exact hv.2.2.2.1 | exact hv.2.2.2.2) ?_
  refine X_callV2 5 332 dL_law_329 cw_L_43 zk_X5_floor ⟨rfl, rfl⟩ rfl rfl rfl (S_X5_floor (iM_vXm hi) (iM_vTk hi) ?_)
  refine X_pu ?_
  refine X_iceq 943 335 dL_law_332 (by decide) rfl (fun c332 => ?_) (fun c332 => ?_)
  · exact tail _ hi
  · exact absurd (eq_floor hi _ _) c332
theorem lc_hand (hi : Inv σ σ) (hv : lwV L i) (tail : lwT L f i Q) : xg_X (some (L, f)) 32 mL_law 337 (lwL i) [] σ Q := by
  unfold lwT at tail
  unfold lwL at *
  refine X_aldn2 338 dL_law_337 rfl rfl ?_
  refine X_aldn3 339 dL_law_338 rfl rfl ?_
  refine X_ildn0 340 dL_law_339 rfl rfl ?_
  refine X_iconst 1 341 dL_law_340 (by decide) rfl ?_
  refine X_iadd 342 dL_law_341 rfl ?_
  refine X_sald 343 dL_law_342 rfl (by first | exact hv.2.1 | exact hv.2.2.1 | exact hv.2.2.2.1 | exact hv.2.2.2.2) ?_
  refine X_callV1 4 346 dL_law_343 cw_L_44 zk_X4_hand ⟨rfl, rfl⟩ rfl rfl rfl (S_X4_hand (iX_vH hi) ?_)
  refine X_pu ?_
  refine X_aldn1 347 dL_law_346 rfl rfl ?_
  refine X_aldn3 348 dL_law_347 rfl rfl ?_
  refine X_ildn0 349 dL_law_348 rfl rfl ?_
  refine X_iconst 1 350 dL_law_349 (by decide) rfl ?_
  refine X_iadd 351 dL_law_350 rfl ?_
  refine X_sald 352 dL_law_351 rfl (by first | exact hv.2.1 | exact hv.2.2.1 | exact hv.2.2.2.1 | exact hv.2.2.2.2) ?_
  refine X_callV1 5 355 dL_law_352 cw_L_47 zk_X5_hand ⟨rfl, rfl⟩ rfl rfl rfl (S_X5_hand  ?_)
  refine X_pu ?_
  refine X_iceq 943 358 dL_law_355 (by decide) rfl (fun c355 => ?_) (fun c355 => ?_)
  · exact tail _ hi
  · exact absurd (eq_handP hi _) c355
theorem lc_touch (hi : Inv σ σ) (hv : lwV L i) (tail : lwT L f i Q) : xg_X (some (L, f)) 32 mL_law 360 (lwL i) [] σ Q := by
  unfold lwT at tail
  unfold lwL at *
  refine X_aldn2 361 dL_law_360 rfl rfl ?_
  refine X_aldn3 362 dL_law_361 rfl rfl ?_
  refine X_ildn0 363 dL_law_362 rfl rfl ?_
  refine X_iconst 1 364 dL_law_363 (by decide) rfl ?_
  refine X_iadd 365 dL_law_364 rfl ?_
  refine X_sald 366 dL_law_365 rfl (by first | exact hv.2.1 | exact hv.2.2.1 | exact hv.2.2.2.1 | exact hv.2.2.2.2) ?_
  refine X_callV1 4 369 dL_law_366 cw_L_48 zk_X4_touch ⟨rfl, rfl⟩ rfl rfl rfl (S_X4_touch (iX_vX hi) (iX_vH hi) (iX_vPa hi) ?_)
  refine X_pu ?_
  refine X_aldn1 370 dL_law_369 rfl rfl ?_
  refine X_aldn3 371 dL_law_370 rfl rfl ?_
  refine X_ildn0 372 dL_law_371 rfl rfl ?_
  refine X_iconst 1 373 dL_law_372 (by decide) rfl ?_
  refine X_iadd 374 dL_law_373 rfl ?_
  refine X_sald 375 dL_law_374 rfl (by first | exact hv.2.1 | exact hv.2.2.1 | exact hv.2.2.2.1 | exact hv.2.2.2.2) ?_
  refine X_callV1 5 378 dL_law_375 cw_L_51 zk_X5_touch ⟨rfl, rfl⟩ rfl rfl rfl (S_X5_touch (iM_vXm (mI_touch hi _)) (iM_vBk (mI_touch hi _)) ?_)
  refine X_pu ?_
  refine X_iceq 943 381 dL_law_378 (by decide) rfl (fun c378 => ?_) (fun c378 => ?_)
  · exact tail _ (sI_touch hi _)
  · exact absurd (sA_touch hi _) c378
theorem lc_by (hi : Inv σ σ) (hv : lwV L i) (tail : lwT L f i Q) : xg_X (some (L, f)) 32 mL_law 383 (lwL i) [] σ Q := by
  unfold lwT at tail
  unfold lwL at *
  refine X_aldn2 384 dL_law_383 rfl rfl ?_
  refine X_aldn3 385 dL_law_384 rfl rfl ?_
  refine X_ildn0 386 dL_law_385 rfl rfl ?_
  refine X_iconst 1 387 dL_law_386 (by decide) rfl ?_
  refine X_iadd 388 dL_law_387 rfl ?_
  refine X_sald 389 dL_law_388 rfl (by first | exact hv.2.1 | exact hv.2.2.1 | exact hv.2.2.2.1 | exact hv.2.2.2.2) ?_
  refine X_aldn3 390 dL_law_389 rfl rfl ?_
  refine X_ildn0 391 dL_law_390 rfl rfl ?_
  refine X_iconst 2 392 dL_law_391 (by decide) rfl ?_
  refine X_iadd 393 dL_law_392 rfl ?_
  refine X_sald 394 dL_law_393 rfl (by first | exact hv.2.1 | exact hv.2.2.1 | exact hv.2.2.2.1 | exact hv.2.2.2.2) ?_
  refine X_callV2 4 397 dL_law_394 cw_L_52 zk_X4_by ⟨rfl, rfl⟩ rfl rfl rfl (S_X4_by (iX_vX hi) (iX_vH hi) (iX_vPa hi) ?_)
  refine X_pu ?_
  refine X_aldn1 398 dL_law_397 rfl rfl ?_
  refine X_aldn3 399 dL_law_398 rfl rfl ?_
  refine X_ildn0 400 dL_law_399 rfl rfl ?_
  refine X_iconst 1 401 dL_law_400 (by decide) rfl ?_
  refine X_iadd 402 dL_law_401 rfl ?_
  refine X_sald 403 dL_law_402 rfl (by first | exact hv.2.1 | exact hv.2.2.1 | exact hv.2.2.2.1 | exact hv.2.2.2.2) ?_
  refine X_aldn3 404 dL_law_403 rfl rfl ?_
  refine X_ildn0 405 dL_law_404 rfl rfl ?_
  refine X_iconst 2 406 dL_law_405 (by decide) rfl ?_
  refine X_iadd 407 dL_law_406 rfl ?_
  refine X_sald 408 dL_law_407 rfl (by first | exact hv.2.1 | exact hv.2.2.1 | exact hv.2.2.2.1 | exact hv.2.2.2.2) ?_
  refine X_callV2 5 411 dL_law_408 cw_L_55 zk_X5_by ⟨rfl, rfl⟩ rfl rfl rfl (S_X5_by (iM_vXm (mI_by hi _ _)) (iM_vBk (mI_by hi _ _)) ?_)
  refine X_pu ?_
  refine X_iceq 943 414 dL_law_411 (by decide) rfl (fun c411 => ?_) (fun c411 => ?_)
  · exact tail _ (sI_by hi _ _)
  · exact absurd (sA_by hi _ _) c411
theorem lc_eat (hi : Inv σ σ) (hv : lwV L i) (tail : lwT L f i Q) : xg_X (some (L, f)) 32 mL_law 416 (lwL i) [] σ Q := by
  unfold lwT at tail
  unfold lwL at *
  refine X_aldn2 417 dL_law_416 rfl rfl ?_
  refine X_aldn3 418 dL_law_417 rfl rfl ?_
  refine X_ildn0 419 dL_law_418 rfl rfl ?_
  refine X_iconst 1 420 dL_law_419 (by decide) rfl ?_
  refine X_iadd 421 dL_law_420 rfl ?_
  refine X_sald 422 dL_law_421 rfl (by first | exact hv.2.1 | exact hv.2.2.1 | exact hv.2.2.2.1 | exact hv.2.2.2.2) ?_
  refine X_aldn3 423 dL_law_422 rfl rfl ?_
  refine X_ildn0 424 dL_law_423 rfl rfl ?_
  refine X_iconst 2 425 dL_law_424 (by decide) rfl ?_
  refine X_iadd 426 dL_law_425 rfl ?_
  refine X_sald 427 dL_law_426 rfl (by first | exact hv.2.1 | exact hv.2.2.1 | exact hv.2.2.2.1 | exact hv.2.2.2.2) ?_
  refine X_callV2 4 430 dL_law_427 cw_L_56 zk_X4_eat ⟨rfl, rfl⟩ rfl rfl rfl (S_X4_eat (iX_vX hi) (iX_vH hi) (iX_vPa hi) ?_)
  refine X_pu ?_
  refine X_aldn1 431 dL_law_430 rfl rfl ?_
  refine X_aldn3 432 dL_law_431 rfl rfl ?_
  refine X_ildn0 433 dL_law_432 rfl rfl ?_
  refine X_iconst 1 434 dL_law_433 (by decide) rfl ?_
  refine X_iadd 435 dL_law_434 rfl ?_
  refine X_sald 436 dL_law_435 rfl (by first | exact hv.2.1 | exact hv.2.2.1 | exact hv.2.2.2.1 | exact hv.2.2.2.2) ?_
  refine X_aldn3 437 dL_law_436 rfl rfl ?_
  refine X_ildn0 438 dL_law_437 rfl rfl ?_
  refine X_iconst 2 439 dL_law_438 (by decide) rfl ?_
  refine X_iadd 440 dL_law_439 rfl ?_
  refine X_sald 441 dL_law_440 rfl (by first | exact hv.2.1 | exact hv.2.2.1 | exact hv.2.2.2.1 | exact hv.2.2.2.2) ?_
  refine X_callV2 5 444 dL_law_441 cw_L_59 zk_X5_eat ⟨rfl, rfl⟩ rfl rfl rfl (S_X5_eat (iM_vXm (mI_eat hi _ _)) (iM_vBk (mI_eat hi _ _)) ?_)
  refine X_pu ?_
  refine X_iceq 943 447 dL_law_444 (by decide) rfl (fun c444 => ?_) (fun c444 => ?_)
  · exact tail _ (sI_eat hi _ _)
  · exact absurd (sA_eat hi _ _) c444
theorem lc_bathe (hi : Inv σ σ) (hv : lwV L i) (tail : lwT L f i Q) : xg_X (some (L, f)) 32 mL_law 449 (lwL i) [] σ Q := by
  unfold lwT at tail
  unfold lwL at *
  refine X_aldn2 450 dL_law_449 rfl rfl ?_
  refine X_callV0 4 453 dL_law_450 cw_L_60 zk_X4_bathe ⟨rfl, rfl⟩ rfl rfl rfl (S_X4_bathe (iX_vX hi) (iX_vPa hi) ?_)
  refine X_pu ?_
  refine X_aldn1 454 dL_law_453 rfl rfl ?_
  refine X_callV0 5 457 dL_law_454 cw_L_63 zk_X5_bathe ⟨rfl, rfl⟩ rfl rfl rfl (S_X5_bathe (iM_vXm (mI_bathe hi)) (iM_vBk (mI_bathe hi)) ?_)
  refine X_pu ?_
  refine X_iceq 943 460 dL_law_457 (by decide) rfl (fun c457 => ?_) (fun c457 => ?_)
  · exact tail _ (sI_bathe hi)
  · exact absurd (sA_bathe hi) c457
theorem lc_idle (hi : Inv σ σ) (hv : lwV L i) (tail : lwT L f i Q) : xg_X (some (L, f)) 32 mL_law 462 (lwL i) [] σ Q := by
  unfold lwT at tail
  unfold lwL at *
  refine X_aldn2 463 dL_law_462 rfl rfl ?_
  refine X_callV0 4 466 dL_law_463 cw_L_64 zk_X4_idle ⟨rfl, rfl⟩ rfl rfl rfl (S_X4_idle (iX_vX hi) (iX_vPa hi) ?_)
  refine X_pu ?_
  refine X_aldn1 467 dL_law_466 rfl rfl ?_
  refine X_callV0 5 470 dL_law_467 cw_L_67 zk_X5_idle ⟨rfl, rfl⟩ rfl rfl rfl (S_X5_idle (iM_vXm (mI_idle hi)) (iM_vBk (mI_idle hi)) ?_)
  refine X_pu ?_
  refine X_iceq 943 473 dL_law_470 (by decide) rfl (fun c470 => ?_) (fun c470 => ?_)
  · exact tail _ (sI_idle hi)
  · exact absurd (sA_idle hi) c470
theorem lc_undo (hi : Inv σ σ) (hv : lwV L i) (tail : lwT L f i Q) : xg_X (some (L, f)) 32 mL_law 475 (lwL i) [] σ Q := by
  unfold lwT at tail
  unfold lwL at *
  refine X_aldn2 476 dL_law_475 rfl rfl ?_
  refine X_callV0 4 479 dL_law_476 cw_L_68 zk_X4_undo ⟨rfl, rfl⟩ rfl rfl rfl (S_X4_undo (iX_vPa hi) ?_)
  refine X_pu ?_
  refine X_aldn1 480 dL_law_479 rfl rfl ?_
  refine X_callV0 5 483 dL_law_480 cw_L_71 zk_X5_undo ⟨rfl, rfl⟩ rfl rfl rfl (S_X5_undo (iM_vBk (mI_undo hi)) ?_)
  refine X_pu ?_
  refine X_iceq 943 486 dL_law_483 (by decide) rfl (fun c483 => ?_) (fun c483 => ?_)
  · exact tail _ (sI_undo hi)
  · exact absurd (sA_undo hi) c483
theorem lc_keep (hi : Inv σ σ) (hv : lwV L i) (tail : lwT L f i Q) : xg_X (some (L, f)) 32 mL_law 488 (lwL i) [] σ Q := by
  unfold lwT at tail
  unfold lwL at *
  refine X_aldn2 489 dL_law_488 rfl rfl ?_
  refine X_aldn3 490 dL_law_489 rfl rfl ?_
  refine X_ildn0 491 dL_law_490 rfl rfl ?_
  refine X_iconst 1 492 dL_law_491 (by decide) rfl ?_
  refine X_iadd 493 dL_law_492 rfl ?_
  refine X_sald 494 dL_law_493 rfl (by first | exact hv.2.1 | exact hv.2.2.1 | exact hv.2.2.2.1 | exact hv.2.2.2.2) ?_
  refine X_callV1 4 497 dL_law_494 cw_L_72 zk_X4_keep ⟨rfl, rfl⟩ rfl rfl rfl (S_X4_keep (iX_vKp hi) ?_)
  refine X_pu ?_
  refine X_aldn1 498 dL_law_497 rfl rfl ?_
  refine X_aldn3 499 dL_law_498 rfl rfl ?_
  refine X_ildn0 500 dL_law_499 rfl rfl ?_
  refine X_iconst 1 501 dL_law_500 (by decide) rfl ?_
  refine X_iadd 502 dL_law_501 rfl ?_
  refine X_sald 503 dL_law_502 rfl (by first | exact hv.2.1 | exact hv.2.2.1 | exact hv.2.2.2.1 | exact hv.2.2.2.2) ?_
  refine X_callV1 5 506 dL_law_503 cw_L_75 zk_X5_keep ⟨rfl, rfl⟩ rfl rfl rfl (S_X5_keep  ?_)
  refine X_pu ?_
  refine X_iceq 943 509 dL_law_506 (by decide) rfl (fun c506 => ?_) (fun c506 => ?_)
  · exact tail _ (sI_keep hi _)
  · exact absurd (sA_keep hi _) c506
theorem lc_back (hi : Inv σ σ) (hv : lwV L i) (tail : lwT L f i Q) : xg_X (some (L, f)) 32 mL_law 511 (lwL i) [] σ Q := by
  unfold lwT at tail
  unfold lwL at *
  refine X_aldn2 512 dL_law_511 rfl rfl ?_
  refine X_aldn3 513 dL_law_512 rfl rfl ?_
  refine X_ildn0 514 dL_law_513 rfl rfl ?_
  refine X_iconst 1 515 dL_law_514 (by decide) rfl ?_
  refine X_iadd 516 dL_law_515 rfl ?_
  refine X_sald 517 dL_law_516 rfl (by first | exact hv.2.1 | exact hv.2.2.1 | exact hv.2.2.2.1 | exact hv.2.2.2.2) ?_
  refine X_callV1 4 520 dL_law_517 cw_L_76 zk_X4_back ⟨rfl, rfl⟩ rfl rfl rfl (S_X4_back (iX_vKp hi) ?_)
  refine X_pu ?_
  refine X_aldn1 521 dL_law_520 rfl rfl ?_
  refine X_aldn3 522 dL_law_521 rfl rfl ?_
  refine X_ildn0 523 dL_law_522 rfl rfl ?_
  refine X_iconst 1 524 dL_law_523 (by decide) rfl ?_
  refine X_iadd 525 dL_law_524 rfl ?_
  refine X_sald 526 dL_law_525 rfl (by first | exact hv.2.1 | exact hv.2.2.1 | exact hv.2.2.2.1 | exact hv.2.2.2.2) ?_
  refine X_callV1 5 529 dL_law_526 cw_L_79 zk_X5_back ⟨rfl, rfl⟩ rfl rfl rfl (S_X5_back  ?_)
  refine X_pu ?_
  refine X_iceq 943 532 dL_law_529 (by decide) rfl (fun c529 => ?_) (fun c529 => ?_)
  · exact tail _ (sI_back hi _)
  · exact absurd (sA_back hi _) c529
theorem lc_town (hi : Inv σ σ) (hv : lwV L i) (tail : lwT L f i Q) : xg_X (some (L, f)) 32 mL_law 534 (lwL i) [] σ Q := by
  unfold lwT at tail
  unfold lwL at *
  refine X_aldn2 535 dL_law_534 rfl rfl ?_
  refine X_aldn3 536 dL_law_535 rfl rfl ?_
  refine X_ildn0 537 dL_law_536 rfl rfl ?_
  refine X_iconst 1 538 dL_law_537 (by decide) rfl ?_
  refine X_iadd 539 dL_law_538 rfl ?_
  refine X_sald 540 dL_law_539 rfl (by first | exact hv.2.1 | exact hv.2.2.1 | exact hv.2.2.2.1 | exact hv.2.2.2.2) ?_
  refine X_aldn3 541 dL_law_540 rfl rfl ?_
  refine X_ildn0 542 dL_law_541 rfl rfl ?_
  refine X_iconst 2 543 dL_law_542 (by decide) rfl ?_
  refine X_iadd 544 dL_law_543 rfl ?_
  refine X_sald 545 dL_law_544 rfl (by first | exact hv.2.1 | exact hv.2.2.1 | exact hv.2.2.2.1 | exact hv.2.2.2.2) ?_
  refine X_callV2 4 548 dL_law_545 cw_L_80 zk_X4_town ⟨rfl, rfl⟩ rfl rfl rfl (S_X4_town (iX_vX hi) (fun τ h17 => ?_))
  refine X_pu ?_
  refine X_aldn1 549 dL_law_548 rfl rfl ?_
  refine X_aldn3 550 dL_law_549 rfl rfl ?_
  refine X_ildn0 551 dL_law_550 rfl rfl ?_
  refine X_iconst 1 552 dL_law_551 (by decide) rfl ?_
  refine X_iadd 553 dL_law_552 rfl ?_
  refine X_sald 554 dL_law_553 rfl (by first | exact hv.2.1 | exact hv.2.2.1 | exact hv.2.2.2.1 | exact hv.2.2.2.2) ?_
  refine X_aldn3 555 dL_law_554 rfl rfl ?_
  refine X_ildn0 556 dL_law_555 rfl rfl ?_
  refine X_iconst 2 557 dL_law_556 (by decide) rfl ?_
  refine X_iadd 558 dL_law_557 rfl ?_
  refine X_sald 559 dL_law_558 rfl (by first | exact hv.2.1 | exact hv.2.2.1 | exact hv.2.2.2.1 | exact hv.2.2.2.2) ?_
  refine X_callV2 5 562 dL_law_559 cw_L_83 zk_X5_town ⟨rfl, rfl⟩ rfl rfl rfl (S_X5_town (iM_vXm (m17 hi h17)) (fun ρ hF => ?_))
  refine X_pu ?_
  refine X_iceq 943 565 dL_law_562 (by decide) rfl (fun c562 => ?_) (fun c562 => ?_)
  · exact tail _ (s17 hi h17 hF)
  · exact absurd (eq_town (m17 hi h17) _ _) c562
theorem lc_put (hi : Inv σ σ) (hv : lwV L i) (tail : lwT L f i Q) : xg_X (some (L, f)) 32 mL_law 567 (lwL i) [] σ Q := by
  unfold lwT at tail
  unfold lwL at *
  refine X_aldn2 568 dL_law_567 rfl rfl ?_
  refine X_aldn3 569 dL_law_568 rfl rfl ?_
  refine X_ildn0 570 dL_law_569 rfl rfl ?_
  refine X_iconst 1 571 dL_law_570 (by decide) rfl ?_
  refine X_iadd 572 dL_law_571 rfl ?_
  refine X_sald 573 dL_law_572 rfl (by first | exact hv.2.1 | exact hv.2.2.1 | exact hv.2.2.2.1 | exact hv.2.2.2.2) ?_
  refine X_callV1 4 576 dL_law_573 cw_L_84 zk_X4_put ⟨rfl, rfl⟩ rfl rfl rfl (S_X4_put (iX_vX hi) (iX_vR hi) ?_)
  refine X_pu ?_
  refine X_aldn1 577 dL_law_576 rfl rfl ?_
  refine X_aldn3 578 dL_law_577 rfl rfl ?_
  refine X_ildn0 579 dL_law_578 rfl rfl ?_
  refine X_iconst 1 580 dL_law_579 (by decide) rfl ?_
  refine X_iadd 581 dL_law_580 rfl ?_
  refine X_sald 582 dL_law_581 rfl (by first | exact hv.2.1 | exact hv.2.2.1 | exact hv.2.2.2.1 | exact hv.2.2.2.2) ?_
  refine X_callV1 5 585 dL_law_582 cw_L_87 zk_X5_put ⟨rfl, rfl⟩ rfl rfl rfl (S_X5_put (iM_vRm (mI_put hi _)) ?_)
  refine X_pu ?_
  refine X_iceq 943 588 dL_law_585 (by decide) rfl (fun c585 => ?_) (fun c585 => ?_)
  · exact tail _ (sI_put hi _)
  · exact absurd (sA_put hi _) c585
theorem lc_wipe (hi : Inv σ σ) (hv : lwV L i) (tail : lwT L f i Q) : xg_X (some (L, f)) 32 mL_law 590 (lwL i) [] σ Q := by
  unfold lwT at tail
  unfold lwL at *
  refine X_aldn2 591 dL_law_590 rfl rfl ?_
  refine X_callV0 4 594 dL_law_591 cw_L_88 zk_X4_wipe ⟨rfl, rfl⟩ rfl rfl rfl (S_X4_wipe ?_)
  refine X_pu ?_
  refine X_aldn1 595 dL_law_594 rfl rfl ?_
  refine X_callV0 5 598 dL_law_595 cw_L_91 zk_X5_wipe ⟨rfl, rfl⟩ rfl rfl rfl (S_X5_wipe ?_)
  refine X_pu ?_
  refine X_iceq 943 601 dL_law_598 (by decide) rfl (fun c598 => ?_) (fun c598 => ?_)
  · exact tail _ (sI_wipe hi)
  · exact absurd (sA_wipe hi) c598
theorem lc_goes (hi : Inv σ σ) (hv : lwV L i) (tail : lwT L f i Q) : xg_X (some (L, f)) 32 mL_law 603 (lwL i) [] σ Q := by
  unfold lwT at tail
  unfold lwL at *
  refine X_aldn2 604 dL_law_603 rfl rfl ?_
  refine X_aldn3 605 dL_law_604 rfl rfl ?_
  refine X_ildn0 606 dL_law_605 rfl rfl ?_
  refine X_iconst 1 607 dL_law_606 (by decide) rfl ?_
  refine X_iadd 608 dL_law_607 rfl ?_
  refine X_sald 609 dL_law_608 rfl (by first | exact hv.2.1 | exact hv.2.2.1 | exact hv.2.2.2.1 | exact hv.2.2.2.2) ?_
  refine X_callV1 4 612 dL_law_609 cw_L_92 zk_X4_goes ⟨rfl, rfl⟩ rfl rfl rfl (S_X4_goes (iX_vX hi) (iX_vR hi) (iX_row hi) (fun τ h17 => ?_))
  refine X_pu ?_
  refine X_aldn1 613 dL_law_612 rfl rfl ?_
  refine X_aldn3 614 dL_law_613 rfl rfl ?_
  refine X_ildn0 615 dL_law_614 rfl rfl ?_
  refine X_iconst 1 616 dL_law_615 (by decide) rfl ?_
  refine X_iadd 617 dL_law_616 rfl ?_
  refine X_sald 618 dL_law_617 rfl (by first | exact hv.2.1 | exact hv.2.2.1 | exact hv.2.2.2.1 | exact hv.2.2.2.2) ?_
  refine X_callV1 5 621 dL_law_618 cw_L_95 zk_X5_goes ⟨rfl, rfl⟩ rfl rfl rfl (S_X5_goes (iM_vXm (m17 hi h17)) (iM_vRm (m17 hi h17)) (iM_row (m17 hi h17)) (fun ρ hF => ?_))
  refine X_pu ?_
  refine X_iceq 943 624 dL_law_621 (by decide) rfl (fun c621 => ?_) (fun c621 => ?_)
  · exact tail _ (s17 hi h17 hF)
  · exact absurd (eq_goes (m17 hi h17) _) c621
theorem lc_task (hi : Inv σ σ) (hv : lwV L i) (tail : lwT L f i Q) : xg_X (some (L, f)) 32 mL_law 626 (lwL i) [] σ Q := by
  unfold lwT at tail
  unfold lwL at *
  refine X_aldn2 627 dL_law_626 rfl rfl ?_
  refine X_aldn3 628 dL_law_627 rfl rfl ?_
  refine X_ildn0 629 dL_law_628 rfl rfl ?_
  refine X_iconst 1 630 dL_law_629 (by decide) rfl ?_
  refine X_iadd 631 dL_law_630 rfl ?_
  refine X_sald 632 dL_law_631 rfl (by first | exact hv.2.1 | exact hv.2.2.1 | exact hv.2.2.2.1 | exact hv.2.2.2.2) ?_
  refine X_callV1 4 635 dL_law_632 cw_L_96 zk_X4_task ⟨rfl, rfl⟩ rfl rfl rfl (S_X4_task  ?_)
  refine X_pu ?_
  refine X_aldn1 636 dL_law_635 rfl rfl ?_
  refine X_aldn3 637 dL_law_636 rfl rfl ?_
  refine X_ildn0 638 dL_law_637 rfl rfl ?_
  refine X_iconst 1 639 dL_law_638 (by decide) rfl ?_
  refine X_iadd 640 dL_law_639 rfl ?_
  refine X_sald 641 dL_law_640 rfl (by first | exact hv.2.1 | exact hv.2.2.1 | exact hv.2.2.2.1 | exact hv.2.2.2.2) ?_
  refine X_callV1 5 644 dL_law_641 cw_L_99 zk_X5_task ⟨rfl, rfl⟩ rfl rfl rfl (S_X5_task (iM_vTk (mI_task hi _)) ?_)
  refine X_pu ?_
  refine X_iceq 943 647 dL_law_644 (by decide) rfl (fun c644 => ?_) (fun c644 => ?_)
  · exact tail _ (sI_task hi _)
  · exact absurd (sA_task hi _) c644
theorem lc_drop (hi : Inv σ σ) (hv : lwV L i) (tail : lwT L f i Q) : xg_X (some (L, f)) 32 mL_law 649 (lwL i) [] σ Q := by
  unfold lwT at tail
  unfold lwL at *
  refine X_aldn2 650 dL_law_649 rfl rfl ?_
  refine X_callV0 4 653 dL_law_650 cw_L_100 zk_X4_drop ⟨rfl, rfl⟩ rfl rfl rfl (S_X4_drop ?_)
  refine X_pu ?_
  refine X_aldn1 654 dL_law_653 rfl rfl ?_
  refine X_callV0 5 657 dL_law_654 cw_L_103 zk_X5_drop ⟨rfl, rfl⟩ rfl rfl rfl (S_X5_drop ?_)
  refine X_pu ?_
  refine X_iceq 943 660 dL_law_657 (by decide) rfl (fun c657 => ?_) (fun c657 => ?_)
  · exact tail _ (sI_drop hi)
  · exact absurd (sA_drop hi) c657
theorem lc_plan (hi : Inv σ σ) (hv : lwV L i) (tail : lwT L f i Q) : xg_X (some (L, f)) 32 mL_law 662 (lwL i) [] σ Q := by
  unfold lwT at tail
  unfold lwL at *
  refine X_aldn2 663 dL_law_662 rfl rfl ?_
  refine X_aldn3 664 dL_law_663 rfl rfl ?_
  refine X_ildn0 665 dL_law_664 rfl rfl ?_
  refine X_iconst 1 666 dL_law_665 (by decide) rfl ?_
  refine X_iadd 667 dL_law_666 rfl ?_
  refine X_sald 668 dL_law_667 rfl (by first | exact hv.2.1 | exact hv.2.2.1 | exact hv.2.2.2.1 | exact hv.2.2.2.2) ?_
  refine X_callV1 4 671 dL_law_668 cw_L_104 zk_X4_plan ⟨rfl, rfl⟩ rfl rfl rfl (S_X4_plan (d := 0) (iX_vX hi) (iX_vH hi) (iX_vM hi) (iX_pl hi) (fun τ hp => ?_))
  refine X_pu ?_
  refine X_aldn1 672 dL_law_671 rfl rfl ?_
  refine X_aldn3 673 dL_law_672 rfl rfl ?_
  refine X_ildn0 674 dL_law_673 rfl rfl ?_
  refine X_iconst 1 675 dL_law_674 (by decide) rfl ?_
  refine X_iadd 676 dL_law_675 rfl ?_
  refine X_sald 677 dL_law_676 rfl (by first | exact hv.2.1 | exact hv.2.2.1 | exact hv.2.2.2.1 | exact hv.2.2.2.2) ?_
  refine X_callV1 5 680 dL_law_677 cw_L_107 zk_X5_plan ⟨rfl, rfl⟩ rfl rfl rfl (S_X5_plan (iM_vXm (mP hi hp)) (iM_vTf (mP hi hp)) (iM_vMm (mP hi hp)) (fun ρ hT => ?_))
  refine X_pu ?_
  refine X_iceq 943 683 dL_law_680 (by decide) rfl (fun c680 => ?_) (fun c680 => ?_)
  · exact tail _ (sP hi hp hT)
  · exact absurd (eq_plan (mP hi hp) _) c680
theorem lc_price (hi : Inv σ σ) (hv : lwV L i) (tail : lwT L f i Q) : xg_X (some (L, f)) 32 mL_law 685 (lwL i) [] σ Q := by
  unfold lwT at tail
  unfold lwL at *
  refine X_aldn2 686 dL_law_685 rfl rfl ?_
  refine X_aldn3 687 dL_law_686 rfl rfl ?_
  refine X_ildn0 688 dL_law_687 rfl rfl ?_
  refine X_iconst 1 689 dL_law_688 (by decide) rfl ?_
  refine X_iadd 690 dL_law_689 rfl ?_
  refine X_sald 691 dL_law_690 rfl (by first | exact hv.2.1 | exact hv.2.2.1 | exact hv.2.2.2.1 | exact hv.2.2.2.2) ?_
  refine X_callV1 4 694 dL_law_691 cw_L_108 zk_X4_price ⟨rfl, rfl⟩ rfl rfl rfl (S_X4_price (iX_vX hi) (iX_vM hi) (fun τ h17 => ?_))
  refine X_pu ?_
  refine X_aldn1 695 dL_law_694 rfl rfl ?_
  refine X_aldn3 696 dL_law_695 rfl rfl ?_
  refine X_ildn0 697 dL_law_696 rfl rfl ?_
  refine X_iconst 1 698 dL_law_697 (by decide) rfl ?_
  refine X_iadd 699 dL_law_698 rfl ?_
  refine X_sald 700 dL_law_699 rfl (by first | exact hv.2.1 | exact hv.2.2.1 | exact hv.2.2.2.1 | exact hv.2.2.2.2) ?_
  refine X_callV1 5 703 dL_law_700 cw_L_111 zk_X5_price ⟨rfl, rfl⟩ rfl rfl rfl (S_X5_price (iM_vXm (m17 hi h17)) (iM_vMm (m17 hi h17)) (fun ρ hF => ?_))
  refine X_pu ?_
  refine X_iceq 943 706 dL_law_703 (by decide) rfl (fun c703 => ?_) (fun c703 => ?_)
  · exact tail _ (s17 hi h17 hF)
  · exact absurd (eq_price (m17 hi h17) _) c703
theorem lc_sell (hi : Inv σ σ) (hv : lwV L i) (tail : lwT L f i Q) : xg_X (some (L, f)) 32 mL_law 708 (lwL i) [] σ Q := by
  unfold lwT at tail
  unfold lwL at *
  refine X_aldn2 709 dL_law_708 rfl rfl ?_
  refine X_aldn3 710 dL_law_709 rfl rfl ?_
  refine X_ildn0 711 dL_law_710 rfl rfl ?_
  refine X_iconst 1 712 dL_law_711 (by decide) rfl ?_
  refine X_iadd 713 dL_law_712 rfl ?_
  refine X_sald 714 dL_law_713 rfl (by first | exact hv.2.1 | exact hv.2.2.1 | exact hv.2.2.2.1 | exact hv.2.2.2.2) ?_
  refine X_callV1 4 717 dL_law_714 cw_L_112 zk_X4_sell ⟨rfl, rfl⟩ rfl rfl rfl (S_X4_sell (iX_vX hi) (iX_vM hi) (fun τ h17 => ?_))
  refine X_pu ?_
  refine X_aldn1 718 dL_law_717 rfl rfl ?_
  refine X_aldn3 719 dL_law_718 rfl rfl ?_
  refine X_ildn0 720 dL_law_719 rfl rfl ?_
  refine X_iconst 1 721 dL_law_720 (by decide) rfl ?_
  refine X_iadd 722 dL_law_721 rfl ?_
  refine X_sald 723 dL_law_722 rfl (by first | exact hv.2.1 | exact hv.2.2.1 | exact hv.2.2.2.1 | exact hv.2.2.2.2) ?_
  refine X_callV1 5 726 dL_law_723 cw_L_115 zk_X5_sell ⟨rfl, rfl⟩ rfl rfl rfl (S_X5_sell (iM_vXm (m17 hi h17)) (iM_vMm (m17 hi h17)) (fun ρ hF => ?_))
  refine X_pu ?_
  refine X_iceq 943 729 dL_law_726 (by decide) rfl (fun c726 => ?_) (fun c726 => ?_)
  · exact tail _ (s17 hi h17 hF)
  · exact absurd (eq_sell (m17 hi h17) _) c726
theorem lc_thief (hi : Inv σ σ) (hv : lwV L i) (tail : lwT L f i Q) : xg_X (some (L, f)) 32 mL_law 731 (lwL i) [] σ Q := by
  unfold lwT at tail
  unfold lwL at *
  refine X_aldn2 732 dL_law_731 rfl rfl ?_
  refine X_aldn3 733 dL_law_732 rfl rfl ?_
  refine X_ildn0 734 dL_law_733 rfl rfl ?_
  refine X_iconst 1 735 dL_law_734 (by decide) rfl ?_
  refine X_iadd 736 dL_law_735 rfl ?_
  refine X_sald 737 dL_law_736 rfl (by first | exact hv.2.1 | exact hv.2.2.1 | exact hv.2.2.2.1 | exact hv.2.2.2.2) ?_
  refine X_callV1 4 740 dL_law_737 cw_L_116 zk_X4_thief ⟨rfl, rfl⟩ rfl rfl rfl (S_X4_thief (iX_vX hi) ?_)
  refine X_pu ?_
  refine X_aldn1 741 dL_law_740 rfl rfl ?_
  refine X_aldn3 742 dL_law_741 rfl rfl ?_
  refine X_ildn0 743 dL_law_742 rfl rfl ?_
  refine X_iconst 1 744 dL_law_743 (by decide) rfl ?_
  refine X_iadd 745 dL_law_744 rfl ?_
  refine X_sald 746 dL_law_745 rfl (by first | exact hv.2.1 | exact hv.2.2.1 | exact hv.2.2.2.1 | exact hv.2.2.2.2) ?_
  refine X_callV1 5 749 dL_law_746 cw_L_119 zk_X5_thief ⟨rfl, rfl⟩ rfl rfl rfl (S_X5_thief (iM_vXm hi) ?_)
  refine X_pu ?_
  refine X_iceq 943 752 dL_law_749 (by decide) rfl (fun c749 => ?_) (fun c749 => ?_)
  · exact tail _ hi
  · exact absurd (eq_thief hi _) c749
theorem lc_look (hi : Inv σ σ) (hv : lwV L i) (tail : lwT L f i Q) : xg_X (some (L, f)) 32 mL_law 754 (lwL i) [] σ Q := by
  unfold lwT at tail
  unfold lwL at *
  refine X_aldn2 755 dL_law_754 rfl rfl ?_
  refine X_aldn3 756 dL_law_755 rfl rfl ?_
  refine X_ildn0 757 dL_law_756 rfl rfl ?_
  refine X_iconst 1 758 dL_law_757 (by decide) rfl ?_
  refine X_iadd 759 dL_law_758 rfl ?_
  refine X_sald 760 dL_law_759 rfl (by first | exact hv.2.1 | exact hv.2.2.1 | exact hv.2.2.2.1 | exact hv.2.2.2.2) ?_
  refine X_aldn3 761 dL_law_760 rfl rfl ?_
  refine X_ildn0 762 dL_law_761 rfl rfl ?_
  refine X_iconst 2 763 dL_law_762 (by decide) rfl ?_
  refine X_iadd 764 dL_law_763 rfl ?_
  refine X_sald 765 dL_law_764 rfl (by first | exact hv.2.1 | exact hv.2.2.1 | exact hv.2.2.2.1 | exact hv.2.2.2.2) ?_
  refine X_aldn3 766 dL_law_765 rfl rfl ?_
  refine X_ildn0 767 dL_law_766 rfl rfl ?_
  refine X_iconst 3 768 dL_law_767 (by decide) rfl ?_
  refine X_iadd 769 dL_law_768 rfl ?_
  refine X_sald 770 dL_law_769 rfl (by first | exact hv.2.1 | exact hv.2.2.1 | exact hv.2.2.2.1 | exact hv.2.2.2.2) ?_
  refine X_callV3 4 773 dL_law_770 cw_L_120 zk_X4_look ⟨rfl, rfl⟩ rfl rfl rfl (S_X4_look (iX_vS hi) ?_)
  refine X_pu ?_
  refine X_aldn1 774 dL_law_773 rfl rfl ?_
  refine X_aldn3 775 dL_law_774 rfl rfl ?_
  refine X_ildn0 776 dL_law_775 rfl rfl ?_
  refine X_iconst 1 777 dL_law_776 (by decide) rfl ?_
  refine X_iadd 778 dL_law_777 rfl ?_
  refine X_sald 779 dL_law_778 rfl (by first | exact hv.2.1 | exact hv.2.2.1 | exact hv.2.2.2.1 | exact hv.2.2.2.2) ?_
  refine X_aldn3 780 dL_law_779 rfl rfl ?_
  refine X_ildn0 781 dL_law_780 rfl rfl ?_
  refine X_iconst 2 782 dL_law_781 (by decide) rfl ?_
  refine X_iadd 783 dL_law_782 rfl ?_
  refine X_sald 784 dL_law_783 rfl (by first | exact hv.2.1 | exact hv.2.2.1 | exact hv.2.2.2.1 | exact hv.2.2.2.2) ?_
  refine X_aldn3 785 dL_law_784 rfl rfl ?_
  refine X_ildn0 786 dL_law_785 rfl rfl ?_
  refine X_iconst 3 787 dL_law_786 (by decide) rfl ?_
  refine X_iadd 788 dL_law_787 rfl ?_
  refine X_sald 789 dL_law_788 rfl (by first | exact hv.2.1 | exact hv.2.2.1 | exact hv.2.2.2.1 | exact hv.2.2.2.2) ?_
  refine X_callV3 5 792 dL_law_789 cw_L_124 zk_X5_look ⟨rfl, rfl⟩ rfl rfl rfl (S_X5_look (iM_vSm (mI_look hi _ _ _)) ?_)
  refine X_pu ?_
  refine X_iceq 943 795 dL_law_792 (by decide) rfl (fun c792 => ?_) (fun c792 => ?_)
  · exact tail _ (sI_look hi _ _ _)
  · exact absurd (sA_look hi _ _ _) c792
theorem lc_forget (hi : Inv σ σ) (hv : lwV L i) (tail : lwT L f i Q) : xg_X (some (L, f)) 32 mL_law 797 (lwL i) [] σ Q := by
  unfold lwT at tail
  unfold lwL at *
  refine X_aldn2 798 dL_law_797 rfl rfl ?_
  refine X_callV0 4 801 dL_law_798 cw_L_125 zk_X4_forget ⟨rfl, rfl⟩ rfl rfl rfl (S_X4_forget ?_)
  refine X_pu ?_
  refine X_aldn1 802 dL_law_801 rfl rfl ?_
  refine X_callV0 5 805 dL_law_802 cw_L_128 zk_X5_forget ⟨rfl, rfl⟩ rfl rfl rfl (S_X5_forget ?_)
  refine X_pu ?_
  refine X_iceq 943 808 dL_law_805 (by decide) rfl (fun c805 => ?_) (fun c805 => ?_)
  · exact tail _ (sI_forget hi)
  · exact absurd (sA_forget hi) c805
theorem lc_fit (hi : Inv σ σ) (hv : lwV L i) (tail : lwT L f i Q) : xg_X (some (L, f)) 32 mL_law 810 (lwL i) [] σ Q := by
  unfold lwT at tail
  unfold lwL at *
  refine X_aldn2 811 dL_law_810 rfl rfl ?_
  refine X_aldn3 812 dL_law_811 rfl rfl ?_
  refine X_ildn0 813 dL_law_812 rfl rfl ?_
  refine X_iconst 1 814 dL_law_813 (by decide) rfl ?_
  refine X_iadd 815 dL_law_814 rfl ?_
  refine X_sald 816 dL_law_815 rfl (by first | exact hv.2.1 | exact hv.2.2.1 | exact hv.2.2.2.1 | exact hv.2.2.2.2) ?_
  refine X_callV1 4 819 dL_law_816 cw_L_129 zk_X4_fit ⟨rfl, rfl⟩ rfl rfl rfl (S_X4_fit (iX_vH hi) (iX_vM hi) (iX_vS hi) ?_)
  refine X_pu ?_
  refine X_aldn1 820 dL_law_819 rfl rfl ?_
  refine X_aldn3 821 dL_law_820 rfl rfl ?_
  refine X_ildn0 822 dL_law_821 rfl rfl ?_
  refine X_iconst 1 823 dL_law_822 (by decide) rfl ?_
  refine X_iadd 824 dL_law_823 rfl ?_
  refine X_sald 825 dL_law_824 rfl (by first | exact hv.2.1 | exact hv.2.2.1 | exact hv.2.2.2.1 | exact hv.2.2.2.2) ?_
  refine X_callV1 5 828 dL_law_825 cw_L_132 zk_X5_fit ⟨rfl, rfl⟩ rfl rfl rfl (S_X5_fit (iM_vMm hi) (iM_vSm hi) ?_)
  refine X_pu ?_
  refine X_iceq 943 831 dL_law_828 (by decide) rfl (fun c828 => ?_) (fun c828 => ?_)
  · exact tail _ hi
  · exact absurd (eq_fit hi _) c828
theorem lc_baths (hi : Inv σ σ) (hv : lwV L i) (tail : lwT L f i Q) : xg_X (some (L, f)) 32 mL_law 833 (lwL i) [] σ Q := by
  unfold lwT at tail
  unfold lwL at *
  refine X_aldn2 834 dL_law_833 rfl rfl ?_
  refine X_aldn3 835 dL_law_834 rfl rfl ?_
  refine X_ildn0 836 dL_law_835 rfl rfl ?_
  refine X_iconst 1 837 dL_law_836 (by decide) rfl ?_
  refine X_iadd 838 dL_law_837 rfl ?_
  refine X_sald 839 dL_law_838 rfl (by first | exact hv.2.1 | exact hv.2.2.1 | exact hv.2.2.2.1 | exact hv.2.2.2.2) ?_
  refine X_aldn3 840 dL_law_839 rfl rfl ?_
  refine X_ildn0 841 dL_law_840 rfl rfl ?_
  refine X_iconst 2 842 dL_law_841 (by decide) rfl ?_
  refine X_iadd 843 dL_law_842 rfl ?_
  refine X_sald 844 dL_law_843 rfl (by first | exact hv.2.1 | exact hv.2.2.1 | exact hv.2.2.2.1 | exact hv.2.2.2.2) ?_
  refine X_callV2 4 847 dL_law_844 cw_L_133 zk_X4_baths ⟨rfl, rfl⟩ rfl rfl rfl (S_X4_baths (iX_vH hi) ?_)
  refine X_pu ?_
  refine X_aldn1 848 dL_law_847 rfl rfl ?_
  refine X_aldn3 849 dL_law_848 rfl rfl ?_
  refine X_ildn0 850 dL_law_849 rfl rfl ?_
  refine X_iconst 1 851 dL_law_850 (by decide) rfl ?_
  refine X_iadd 852 dL_law_851 rfl ?_
  refine X_sald 853 dL_law_852 rfl (by first | exact hv.2.1 | exact hv.2.2.1 | exact hv.2.2.2.1 | exact hv.2.2.2.2) ?_
  refine X_aldn3 854 dL_law_853 rfl rfl ?_
  refine X_ildn0 855 dL_law_854 rfl rfl ?_
  refine X_iconst 2 856 dL_law_855 (by decide) rfl ?_
  refine X_iadd 857 dL_law_856 rfl ?_
  refine X_sald 858 dL_law_857 rfl (by first | exact hv.2.1 | exact hv.2.2.1 | exact hv.2.2.2.1 | exact hv.2.2.2.2) ?_
  refine X_callV2 5 861 dL_law_858 cw_L_136 zk_X5_baths ⟨rfl, rfl⟩ rfl rfl rfl (S_X5_baths (iM_vMm hi) ?_)
  refine X_pu ?_
  refine X_iceq 943 864 dL_law_861 (by decide) rfl (fun c861 => ?_) (fun c861 => ?_)
  · exact tail _ hi
  · exact absurd (eq_baths hi _ _) c861
theorem lc_slips (hi : Inv σ σ) (hv : lwV L i) (tail : lwT L f i Q) : xg_X (some (L, f)) 32 mL_law 866 (lwL i) [] σ Q := by
  unfold lwT at tail
  unfold lwL at *
  refine X_aldn2 867 dL_law_866 rfl rfl ?_
  refine X_aldn3 868 dL_law_867 rfl rfl ?_
  refine X_ildn0 869 dL_law_868 rfl rfl ?_
  refine X_iconst 1 870 dL_law_869 (by decide) rfl ?_
  refine X_iadd 871 dL_law_870 rfl ?_
  refine X_sald 872 dL_law_871 rfl (by first | exact hv.2.1 | exact hv.2.2.1 | exact hv.2.2.2.1 | exact hv.2.2.2.2) ?_
  refine X_aldn3 873 dL_law_872 rfl rfl ?_
  refine X_ildn0 874 dL_law_873 rfl rfl ?_
  refine X_iconst 2 875 dL_law_874 (by decide) rfl ?_
  refine X_iadd 876 dL_law_875 rfl ?_
  refine X_sald 877 dL_law_876 rfl (by first | exact hv.2.1 | exact hv.2.2.1 | exact hv.2.2.2.1 | exact hv.2.2.2.2) ?_
  refine X_aldn3 878 dL_law_877 rfl rfl ?_
  refine X_ildn0 879 dL_law_878 rfl rfl ?_
  refine X_iconst 3 880 dL_law_879 (by decide) rfl ?_
  refine X_iadd 881 dL_law_880 rfl ?_
  refine X_sald 882 dL_law_881 rfl (by first | exact hv.2.1 | exact hv.2.2.1 | exact hv.2.2.2.1 | exact hv.2.2.2.2) ?_
  refine X_aldn3 883 dL_law_882 rfl rfl ?_
  refine X_ildn0 884 dL_law_883 rfl rfl ?_
  refine X_iconst 4 885 dL_law_884 (by decide) rfl ?_
  refine X_iadd 886 dL_law_885 rfl ?_
  refine X_sald 887 dL_law_886 rfl (by first | exact hv.2.1 | exact hv.2.2.1 | exact hv.2.2.2.1 | exact hv.2.2.2.2) ?_
  refine X_callV4 4 890 dL_law_887 cw_L_137 zk_X4_slips ⟨rfl, rfl⟩ rfl rfl rfl (S_X4_slips ?_)
  refine X_pu ?_
  refine X_aldn1 891 dL_law_890 rfl rfl ?_
  refine X_aldn3 892 dL_law_891 rfl rfl ?_
  refine X_ildn0 893 dL_law_892 rfl rfl ?_
  refine X_iconst 1 894 dL_law_893 (by decide) rfl ?_
  refine X_iadd 895 dL_law_894 rfl ?_
  refine X_sald 896 dL_law_895 rfl (by first | exact hv.2.1 | exact hv.2.2.1 | exact hv.2.2.2.1 | exact hv.2.2.2.2) ?_
  refine X_aldn3 897 dL_law_896 rfl rfl ?_
  refine X_ildn0 898 dL_law_897 rfl rfl ?_
  refine X_iconst 2 899 dL_law_898 (by decide) rfl ?_
  refine X_iadd 900 dL_law_899 rfl ?_
  refine X_sald 901 dL_law_900 rfl (by first | exact hv.2.1 | exact hv.2.2.1 | exact hv.2.2.2.1 | exact hv.2.2.2.2) ?_
  refine X_aldn3 902 dL_law_901 rfl rfl ?_
  refine X_ildn0 903 dL_law_902 rfl rfl ?_
  refine X_iconst 3 904 dL_law_903 (by decide) rfl ?_
  refine X_iadd 905 dL_law_904 rfl ?_
  refine X_sald 906 dL_law_905 rfl (by first | exact hv.2.1 | exact hv.2.2.1 | exact hv.2.2.2.1 | exact hv.2.2.2.2) ?_
  refine X_aldn3 907 dL_law_906 rfl rfl ?_
  refine X_ildn0 908 dL_law_907 rfl rfl ?_
  refine X_iconst 4 909 dL_law_908 (by decide) rfl ?_
  refine X_iadd 910 dL_law_909 rfl ?_
  refine X_sald 911 dL_law_910 rfl (by first | exact hv.2.1 | exact hv.2.2.1 | exact hv.2.2.2.1 | exact hv.2.2.2.2) ?_
  refine X_callV4 5 914 dL_law_911 cw_L_141 zk_X5_slips ⟨rfl, rfl⟩ rfl rfl rfl (S_X5_slips ?_)
  refine X_pu ?_
  refine X_lcmp 915 dL_law_914 rfl ?_
  refine X_ifeq 943 918 dL_law_915 (by decide) rfl (fun c915 => ?_) (fun c915 => ?_)
  · exact tail _ hi
  · exact absurd (lcmp_0.mpr (eq_slips _ _ _ _)) c915
theorem lc_count (hi : Inv σ σ) (hv : lwV L i) (tail : lwT L f i Q) : xg_X (some (L, f)) 32 mL_law 920 (lwL i) [] σ Q := by
  unfold lwT at tail
  unfold lwL at *
  refine X_aldn2 921 dL_law_920 rfl rfl ?_
  refine X_aldn3 922 dL_law_921 rfl rfl ?_
  refine X_ildn0 923 dL_law_922 rfl rfl ?_
  refine X_iconst 1 924 dL_law_923 (by decide) rfl ?_
  refine X_iadd 925 dL_law_924 rfl ?_
  refine X_sald 926 dL_law_925 rfl (by first | exact hv.2.1 | exact hv.2.2.1 | exact hv.2.2.2.1 | exact hv.2.2.2.2) ?_
  refine X_callV1 4 929 dL_law_926 cw_L_142 zk_X4_count ⟨rfl, rfl⟩ rfl rfl rfl (S_X4_count  ?_)
  refine X_pu ?_
  refine X_aldn1 930 dL_law_929 rfl rfl ?_
  refine X_aldn3 931 dL_law_930 rfl rfl ?_
  refine X_ildn0 932 dL_law_931 rfl rfl ?_
  refine X_iconst 1 933 dL_law_932 (by decide) rfl ?_
  refine X_iadd 934 dL_law_933 rfl ?_
  refine X_sald 935 dL_law_934 rfl (by first | exact hv.2.1 | exact hv.2.2.1 | exact hv.2.2.2.1 | exact hv.2.2.2.2) ?_
  refine X_callV1 5 938 dL_law_935 cw_L_145 zk_X5_count ⟨rfl, rfl⟩ rfl rfl rfl (S_X5_count (iM_vXm hi) ?_)
  refine X_pu ?_
  refine X_iceq 943 941 dL_law_938 (by decide) rfl (fun c938 => ?_) (fun c938 => ?_)
  · exact tail _ hi
  · exact absurd (eq_count hi _) c938
theorem lw_in {k : Nat} (hL : L ≤ 320) (h : i + 5 ≤ L) (hk : k < 5) : vp_in (nI i + nI k) L := by
  rw [nI_add]
  exact vp_in_nI (by omega) (by omega)
theorem lw_loop (hL : L ≤ 320) : ∀ n i σ, L + 5 ≤ i + 5 * n → i ≤ 330 → Inv σ σ → xg_X (some (L, f)) 32 mL_law 18 (lwL i) [] σ (fun r _ => r = some (.int 1)) := by
  intro n
  induction n with
  | zero => ?_
  | succ n ih => ?_
  all_goals
    intro i σ hn hi3 hi
    unfold lwL
    refine X_ildn0 19 dL_law_18 rfl rfl ?_
    refine X_aldn3 20 dL_law_19 rfl rfl ?_
    refine X_slen 21 dL_law_20 rfl ?_
    refine X_iconst 5 22 dL_law_21 (by decide) rfl ?_
    refine X_isub 23 dL_law_22 rfl ?_
    refine X_icgt 949 26 dL_law_23 (by decide) rfl (fun c => ?_) (fun c => ?_)
    · refine X_iconst 1 950 dL_law_949 (by decide) rfl ?_
      exact X_zret dL_law_950 rfl (Or.inr rfl) rfl
  · exfalso
    apply c
    rw [Int32.lt_iff_toInt_lt, show (5 : Int32) = nI 5 from rfl, pk_sub_toInt (by omega) (by decide), nI_toInt (by omega)]
    omega
  · have h5 : i + 5 ≤ L := by
      rw [i_nlt, Int32.le_iff_toInt_le, show (5 : Int32) = nI 5 from rfl, pk_sub_toInt (by omega) (by decide), nI_toInt (by omega)] at c
      omega
    have hv : lwV L i := ⟨vp_in_nI (by omega) (by omega), lw_in (k := 1) hL h5 (by decide), lw_in (k := 2) hL h5 (by decide), lw_in (k := 3) hL h5 (by decide), lw_in (k := 4) hL h5 (by decide)⟩
    have tail : lwT L f i (fun r _ => r = some (.int 1)) := by
      intro τ hτ
      unfold lwL
      refine X_inc0 5 946 dL_law_943 (by decide) rfl rfl rfl ?_
      refine X_goto 18 dL_law_946 (by decide) ?_
      rw [show nI i + 5 = nI (i + 5) from nI_add i 5]
      exact ih (i + 5) τ (by omega) (by omega) hτ
    refine X_aldn3 27 dL_law_26 rfl rfl ?_
    refine X_ildn0 28 dL_law_27 rfl rfl ?_
    refine X_sald 29 dL_law_28 rfl hv.1 ?_
    refine X_bipush 31 31 dL_law_29 (by decide) rfl ?_
    refine X_iand 32 dL_law_31 rfl ?_
    generalize f (nI i).toNatClampNeg &&& 31 = y
    by_cases y0 : y = 0
    · refine X_tsw 176 dL_law_32 (Or.inr (by rw [y0]; exact ⟨by decide, by decide, 144, by decide, by decide⟩)) ?_
      exact lc_write hi hv tail
    by_cases y1 : y = 1
    · refine X_tsw 199 dL_law_32 (Or.inr (by rw [y1]; exact ⟨by decide, by decide, 167, by decide, by decide⟩)) ?_
      exact lc_erase hi hv tail
    by_cases y2 : y = 2
    · refine X_tsw 212 dL_law_32 (Or.inr (by rw [y2]; exact ⟨by decide, by decide, 180, by decide, by decide⟩)) ?_
      exact lc_fault hi hv tail
    by_cases y3 : y = 3
    · refine X_tsw 225 dL_law_32 (Or.inr (by rw [y3]; exact ⟨by decide, by decide, 193, by decide, by decide⟩)) ?_
      exact lc_court hi hv tail
    by_cases y4 : y = 4
    · refine X_tsw 238 dL_law_32 (Or.inr (by rw [y4]; exact ⟨by decide, by decide, 206, by decide, by decide⟩)) ?_
      exact lc_thing hi hv tail
    by_cases y5 : y = 5
    · refine X_tsw 271 dL_law_32 (Or.inr (by rw [y5]; exact ⟨by decide, by decide, 239, by decide, by decide⟩)) ?_
      exact lc_as hi hv tail
    by_cases y6 : y = 6
    · refine X_tsw 304 dL_law_32 (Or.inr (by rw [y6]; exact ⟨by decide, by decide, 272, by decide, by decide⟩)) ?_
      exact lc_floor hi hv tail
    by_cases y7 : y = 7
    · refine X_tsw 337 dL_law_32 (Or.inr (by rw [y7]; exact ⟨by decide, by decide, 305, by decide, by decide⟩)) ?_
      exact lc_hand hi hv tail
    by_cases y8 : y = 8
    · refine X_tsw 360 dL_law_32 (Or.inr (by rw [y8]; exact ⟨by decide, by decide, 328, by decide, by decide⟩)) ?_
      exact lc_touch hi hv tail
    by_cases y9 : y = 9
    · refine X_tsw 383 dL_law_32 (Or.inr (by rw [y9]; exact ⟨by decide, by decide, 351, by decide, by decide⟩)) ?_
      exact lc_by hi hv tail
    by_cases y10 : y = 10
    · refine X_tsw 416 dL_law_32 (Or.inr (by rw [y10]; exact ⟨by decide, by decide, 384, by decide, by decide⟩)) ?_
      exact lc_eat hi hv tail
    by_cases y11 : y = 11
    · refine X_tsw 449 dL_law_32 (Or.inr (by rw [y11]; exact ⟨by decide, by decide, 417, by decide, by decide⟩)) ?_
      exact lc_bathe hi hv tail
    by_cases y12 : y = 12
    · refine X_tsw 462 dL_law_32 (Or.inr (by rw [y12]; exact ⟨by decide, by decide, 430, by decide, by decide⟩)) ?_
      exact lc_idle hi hv tail
    by_cases y13 : y = 13
    · refine X_tsw 475 dL_law_32 (Or.inr (by rw [y13]; exact ⟨by decide, by decide, 443, by decide, by decide⟩)) ?_
      exact lc_undo hi hv tail
    by_cases y14 : y = 14
    · refine X_tsw 488 dL_law_32 (Or.inr (by rw [y14]; exact ⟨by decide, by decide, 456, by decide, by decide⟩)) ?_
      exact lc_keep hi hv tail
    by_cases y15 : y = 15
    · refine X_tsw 511 dL_law_32 (Or.inr (by rw [y15]; exact ⟨by decide, by decide, 479, by decide, by decide⟩)) ?_
      exact lc_back hi hv tail
    by_cases y16 : y = 16
    · refine X_tsw 534 dL_law_32 (Or.inr (by rw [y16]; exact ⟨by decide, by decide, 502, by decide, by decide⟩)) ?_
      exact lc_town hi hv tail
    by_cases y17 : y = 17
    · refine X_tsw 567 dL_law_32 (Or.inr (by rw [y17]; exact ⟨by decide, by decide, 535, by decide, by decide⟩)) ?_
      exact lc_put hi hv tail
    by_cases y18 : y = 18
    · refine X_tsw 590 dL_law_32 (Or.inr (by rw [y18]; exact ⟨by decide, by decide, 558, by decide, by decide⟩)) ?_
      exact lc_wipe hi hv tail
    by_cases y19 : y = 19
    · refine X_tsw 603 dL_law_32 (Or.inr (by rw [y19]; exact ⟨by decide, by decide, 571, by decide, by decide⟩)) ?_
      exact lc_goes hi hv tail
    by_cases y20 : y = 20
    · refine X_tsw 626 dL_law_32 (Or.inr (by rw [y20]; exact ⟨by decide, by decide, 594, by decide, by decide⟩)) ?_
      exact lc_task hi hv tail
    by_cases y21 : y = 21
    · refine X_tsw 649 dL_law_32 (Or.inr (by rw [y21]; exact ⟨by decide, by decide, 617, by decide, by decide⟩)) ?_
      exact lc_drop hi hv tail
    by_cases y22 : y = 22
    · refine X_tsw 662 dL_law_32 (Or.inr (by rw [y22]; exact ⟨by decide, by decide, 630, by decide, by decide⟩)) ?_
      exact lc_plan hi hv tail
    by_cases y23 : y = 23
    · refine X_tsw 685 dL_law_32 (Or.inr (by rw [y23]; exact ⟨by decide, by decide, 653, by decide, by decide⟩)) ?_
      exact lc_price hi hv tail
    by_cases y24 : y = 24
    · refine X_tsw 708 dL_law_32 (Or.inr (by rw [y24]; exact ⟨by decide, by decide, 676, by decide, by decide⟩)) ?_
      exact lc_sell hi hv tail
    by_cases y25 : y = 25
    · refine X_tsw 731 dL_law_32 (Or.inr (by rw [y25]; exact ⟨by decide, by decide, 699, by decide, by decide⟩)) ?_
      exact lc_thief hi hv tail
    by_cases y26 : y = 26
    · refine X_tsw 754 dL_law_32 (Or.inr (by rw [y26]; exact ⟨by decide, by decide, 722, by decide, by decide⟩)) ?_
      exact lc_look hi hv tail
    by_cases y27 : y = 27
    · refine X_tsw 797 dL_law_32 (Or.inr (by rw [y27]; exact ⟨by decide, by decide, 765, by decide, by decide⟩)) ?_
      exact lc_forget hi hv tail
    by_cases y28 : y = 28
    · refine X_tsw 810 dL_law_32 (Or.inr (by rw [y28]; exact ⟨by decide, by decide, 778, by decide, by decide⟩)) ?_
      exact lc_fit hi hv tail
    by_cases y29 : y = 29
    · refine X_tsw 833 dL_law_32 (Or.inr (by rw [y29]; exact ⟨by decide, by decide, 801, by decide, by decide⟩)) ?_
      exact lc_baths hi hv tail
    by_cases y30 : y = 30
    · refine X_tsw 866 dL_law_32 (Or.inr (by rw [y30]; exact ⟨by decide, by decide, 834, by decide, by decide⟩)) ?_
      exact lc_slips hi hv tail
    by_cases y31 : y = 31
    · refine X_tsw 920 dL_law_32 (Or.inr (by rw [y31]; exact ⟨by decide, by decide, 888, by decide, by decide⟩)) ?_
      exact lc_count hi hv tail
    refine X_tsw 943 dL_law_32 (Or.inl ⟨by have z0 := lv_neT y0 (a := 0) (by decide); have z1 := lv_neT y1 (a := 1) (by decide); have z2 := lv_neT y2 (a := 2) (by decide); have z3 := lv_neT y3 (a := 3) (by decide); have z4 := lv_neT y4 (a := 4) (by decide); have z5 := lv_neT y5 (a := 5) (by decide); have z6 := lv_neT y6 (a := 6) (by decide); have z7 := lv_neT y7 (a := 7) (by decide); have z8 := lv_neT y8 (a := 8) (by decide); have z9 := lv_neT y9 (a := 9) (by decide); have z10 := lv_neT y10 (a := 10) (by decide); have z11 := lv_neT y11 (a := 11) (by decide); have z12 := lv_neT y12 (a := 12) (by decide); have z13 := lv_neT y13 (a := 13) (by decide); have z14 := lv_neT y14 (a := 14) (by decide); have z15 := lv_neT y15 (a := 15) (by decide); have z16 := lv_neT y16 (a := 16) (by decide); have z17 := lv_neT y17 (a := 17) (by decide); have z18 := lv_neT y18 (a := 18) (by decide); have z19 := lv_neT y19 (a := 19) (by decide); have z20 := lv_neT y20 (a := 20) (by decide); have z21 := lv_neT y21 (a := 21) (by decide); have z22 := lv_neT y22 (a := 22) (by decide); have z23 := lv_neT y23 (a := 23) (by decide); have z24 := lv_neT y24 (a := 24) (by decide); have z25 := lv_neT y25 (a := 25) (by decide); have z26 := lv_neT y26 (a := 26) (by decide); have z27 := lv_neT y27 (a := 27) (by decide); have z28 := lv_neT y28 (a := 28) (by decide); have z29 := lv_neT y29 (a := 29) (by decide); have z30 := lv_neT y30 (a := 30) (by decide); have z31 := lv_neT y31 (a := 31) (by decide); omega, by decide⟩) ?_
    exact tail _ hi
end LAW
