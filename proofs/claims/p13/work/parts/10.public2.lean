def kb_cX11_findHands_0 : List Nat := [42, 180, 0, 58, 42, 180, 0, 54, 182, 0, 230, 3, 61, 28, 27, 162, 0, 46, 28, 42]
theorem ac_cX11_findHands_0 : AL cX11_findHands 0 kb_cX11_findHands_0 := AL.of (m := 20) (by decide +kernel)
theorem dX11_findHands_0 : decode cX11_findHands 0 = .ok (.aload_n 0, 1) := o42 ac_cX11_findHands_0 0 rfl
theorem dX11_findHands_1 : decode cX11_findHands 1 = .ok (.getfield 58, 3) := o180 ac_cX11_findHands_0 1 0 58 rfl
theorem dX11_findHands_4 : decode cX11_findHands 4 = .ok (.aload_n 0, 1) := o42 ac_cX11_findHands_0 4 rfl
theorem dX11_findHands_5 : decode cX11_findHands 5 = .ok (.getfield 54, 3) := o180 ac_cX11_findHands_0 5 0 54 rfl
theorem dX11_findHands_8 : decode cX11_findHands 8 = .ok (.invokevirtual 230, 3) := o182 ac_cX11_findHands_0 8 0 230 rfl
theorem dX11_findHands_11 : decode cX11_findHands 11 = .ok (.iconst 0, 1) := o3 ac_cX11_findHands_0 11 rfl
theorem dX11_findHands_12 : decode cX11_findHands 12 = .ok (.istore_n 2, 1) := o61 ac_cX11_findHands_0 12 rfl
theorem dX11_findHands_13 : decode cX11_findHands 13 = .ok (.iload_n 2, 1) := o28 ac_cX11_findHands_0 13 rfl
theorem dX11_findHands_14 : decode cX11_findHands 14 = .ok (.iload_n 1, 1) := o27 ac_cX11_findHands_0 14 rfl
theorem dX11_findHands_15 : decode cX11_findHands 15 = .ok (.if_icmp .ge 46, 3) := o162p ac_cX11_findHands_0 15 0 46 rfl rfl
def kb_cX11_findHands_16 : List Nat := [0, 46, 28, 42, 180, 0, 69, 190, 162, 0, 37, 42, 180, 0, 69, 28, 42, 180, 0, 58]
theorem ac_cX11_findHands_16 : AL cX11_findHands 16 kb_cX11_findHands_16 := AL.of (m := 20) (by decide +kernel)
theorem dX11_findHands_18 : decode cX11_findHands 18 = .ok (.iload_n 2, 1) := o28 ac_cX11_findHands_16 2 rfl
theorem dX11_findHands_19 : decode cX11_findHands 19 = .ok (.aload_n 0, 1) := o42 ac_cX11_findHands_16 3 rfl
theorem dX11_findHands_20 : decode cX11_findHands 20 = .ok (.getfield 69, 3) := o180 ac_cX11_findHands_16 4 0 69 rfl
theorem dX11_findHands_23 : decode cX11_findHands 23 = .ok (.arraylength, 1) := o190 ac_cX11_findHands_16 7 rfl
theorem dX11_findHands_24 : decode cX11_findHands 24 = .ok (.if_icmp .ge 37, 3) := o162p ac_cX11_findHands_16 8 0 37 rfl rfl
theorem dX11_findHands_27 : decode cX11_findHands 27 = .ok (.aload_n 0, 1) := o42 ac_cX11_findHands_16 11 rfl
theorem dX11_findHands_28 : decode cX11_findHands 28 = .ok (.getfield 69, 3) := o180 ac_cX11_findHands_16 12 0 69 rfl
theorem dX11_findHands_31 : decode cX11_findHands 31 = .ok (.iload_n 2, 1) := o28 ac_cX11_findHands_16 15 rfl
def kb_cX11_findHands_32 : List Nat := [42, 180, 0, 58, 182, 1, 26, 79, 42, 180, 0, 19, 42, 180, 0, 82, 42, 180, 0, 58]
theorem ac_cX11_findHands_32 : AL cX11_findHands 32 kb_cX11_findHands_32 := AL.of (m := 20) (by decide +kernel)
theorem dX11_findHands_32 : decode cX11_findHands 32 = .ok (.aload_n 0, 1) := o42 ac_cX11_findHands_32 0 rfl
theorem dX11_findHands_33 : decode cX11_findHands 33 = .ok (.getfield 58, 3) := o180 ac_cX11_findHands_32 1 0 58 rfl
theorem dX11_findHands_36 : decode cX11_findHands 36 = .ok (.invokevirtual 282, 3) := o182 ac_cX11_findHands_32 4 1 26 rfl
theorem dX11_findHands_39 : decode cX11_findHands 39 = .ok (.iastore, 1) := o79 ac_cX11_findHands_32 7 rfl
theorem dX11_findHands_40 : decode cX11_findHands 40 = .ok (.aload_n 0, 1) := o42 ac_cX11_findHands_32 8 rfl
theorem dX11_findHands_41 : decode cX11_findHands 41 = .ok (.getfield 19, 3) := o180 ac_cX11_findHands_32 9 0 19 rfl
theorem dX11_findHands_44 : decode cX11_findHands 44 = .ok (.aload_n 0, 1) := o42 ac_cX11_findHands_32 12 rfl
theorem dX11_findHands_45 : decode cX11_findHands 45 = .ok (.getfield 82, 3) := o180 ac_cX11_findHands_32 13 0 82 rfl
def kb_cX11_findHands_48 : List Nat := [42, 180, 0, 58, 182, 1, 29, 132, 2, 1, 167, 255, 211, 177]
theorem ac_cX11_findHands_48 : AL cX11_findHands 48 kb_cX11_findHands_48 := AL.of (m := 14) (by decide +kernel)
theorem dX11_findHands_48 : decode cX11_findHands 48 = .ok (.aload_n 0, 1) := o42 ac_cX11_findHands_48 0 rfl
theorem dX11_findHands_49 : decode cX11_findHands 49 = .ok (.getfield 58, 3) := o180 ac_cX11_findHands_48 1 0 58 rfl
theorem dX11_findHands_52 : decode cX11_findHands 52 = .ok (.invokevirtual 285, 3) := o182 ac_cX11_findHands_48 4 1 29 rfl
theorem dX11_findHands_55 : decode cX11_findHands 55 = .ok (.iinc 2 1, 3) := o132p ac_cX11_findHands_48 7 2 1 rfl rfl
theorem dX11_findHands_58 : decode cX11_findHands 58 = .ok (.goto (-45), 3) := o167n ac_cX11_findHands_48 10 255 211 44 rfl rfl rfl
theorem dX11_findHands_61 : decode cX11_findHands 61 = .ok (.return_, 1) := o177 ac_cX11_findHands_48 13 rfl
def kb_cX11_inHand_0 : List Nat := [27, 155, 0, 9, 27, 16, 60, 164, 0, 5, 2, 172, 42, 27, 4, 96, 182, 1, 23, 42]
theorem ac_cX11_inHand_0 : AL cX11_inHand 0 kb_cX11_inHand_0 := AL.of (m := 20) (by decide +kernel)
theorem dX11_inHand_0 : decode cX11_inHand 0 = .ok (.iload_n 1, 1) := o27 ac_cX11_inHand_0 0 rfl
theorem dX11_inHand_1 : decode cX11_inHand 1 = .ok (.ifCond .lt 9, 3) := o155p ac_cX11_inHand_0 1 0 9 rfl rfl
theorem dX11_inHand_4 : decode cX11_inHand 4 = .ok (.iload_n 1, 1) := o27 ac_cX11_inHand_0 4 rfl
theorem dX11_inHand_5 : decode cX11_inHand 5 = .ok (.bipush 60, 2) := o16p ac_cX11_inHand_0 5 60 rfl rfl
theorem dX11_inHand_7 : decode cX11_inHand 7 = .ok (.if_icmp .le 5, 3) := o164p ac_cX11_inHand_0 7 0 5 rfl rfl
theorem dX11_inHand_12 : decode cX11_inHand 12 = .ok (.aload_n 0, 1) := o42 ac_cX11_inHand_0 12 rfl
theorem dX11_inHand_13 : decode cX11_inHand 13 = .ok (.iload_n 1, 1) := o27 ac_cX11_inHand_0 13 rfl
theorem dX11_inHand_14 : decode cX11_inHand 14 = .ok (.iconst 1, 1) := o4 ac_cX11_inHand_0 14 rfl
theorem dX11_inHand_15 : decode cX11_inHand 15 = .ok (.iadd, 1) := o96 ac_cX11_inHand_0 15 rfl
def kb_cX11_inHand_16 : List Nat := [182, 1, 23, 42, 180, 0, 69, 27, 46, 2, 160, 0, 8, 16, 254, 167, 0, 9, 42, 180]
theorem ac_cX11_inHand_16 : AL cX11_inHand 16 kb_cX11_inHand_16 := AL.of (m := 20) (by decide +kernel)
theorem dX11_inHand_16 : decode cX11_inHand 16 = .ok (.invokevirtual 279, 3) := o182 ac_cX11_inHand_16 0 1 23 rfl
theorem dX11_inHand_19 : decode cX11_inHand 19 = .ok (.aload_n 0, 1) := o42 ac_cX11_inHand_16 3 rfl
theorem dX11_inHand_20 : decode cX11_inHand 20 = .ok (.getfield 69, 3) := o180 ac_cX11_inHand_16 4 0 69 rfl
theorem dX11_inHand_23 : decode cX11_inHand 23 = .ok (.iload_n 1, 1) := o27 ac_cX11_inHand_16 7 rfl
theorem dX11_inHand_24 : decode cX11_inHand 24 = .ok (.iaload, 1) := o46 ac_cX11_inHand_16 8 rfl
theorem dX11_inHand_25 : decode cX11_inHand 25 = .ok (.iconst (-1), 1) := o2 ac_cX11_inHand_16 9 rfl
theorem dX11_inHand_26 : decode cX11_inHand 26 = .ok (.if_icmp .ne 8, 3) := o160p ac_cX11_inHand_16 10 0 8 rfl rfl
theorem dX11_inHand_29 : decode cX11_inHand 29 = .ok (.bipush (-2), 2) := o16n ac_cX11_inHand_16 13 254 1 rfl rfl rfl
theorem dX11_inHand_31 : decode cX11_inHand 31 = .ok (.goto 9, 3) := o167p ac_cX11_inHand_16 15 0 9 rfl rfl
def kb_cX11_inHand_32 : List Nat := [0, 9, 42, 180, 0, 69, 27, 46, 172]
theorem ac_cX11_inHand_32 : AL cX11_inHand 32 kb_cX11_inHand_32 := AL.of (m := 9) (by decide +kernel)
theorem dX11_inHand_40 : decode cX11_inHand 40 = .ok (.ireturn, 1) := o172 ac_cX11_inHand_32 8 rfl
theorem dX11_inHand_10 : decode cX11_inHand 10 = .ok (.iconst (-1), 1) := o2 ac_cX11_inHand_0 10 rfl
theorem dX11_inHand_11 : decode cX11_inHand 11 = .ok (.ireturn, 1) := o172 ac_cX11_inHand_0 11 rfl
def kb_cX11_firstClash_0 : List Nat := [3, 61, 28, 27, 163, 0, 37, 42, 180, 0, 58, 182, 1, 36, 4, 164, 0, 5, 28, 172]
theorem ac_cX11_firstClash_0 : AL cX11_firstClash 0 kb_cX11_firstClash_0 := AL.of (m := 20) (by decide +kernel)
theorem dX11_firstClash_0 : decode cX11_firstClash 0 = .ok (.iconst 0, 1) := o3 ac_cX11_firstClash_0 0 rfl
theorem dX11_firstClash_1 : decode cX11_firstClash 1 = .ok (.istore_n 2, 1) := o61 ac_cX11_firstClash_0 1 rfl
theorem dX11_firstClash_2 : decode cX11_firstClash 2 = .ok (.iload_n 2, 1) := o28 ac_cX11_firstClash_0 2 rfl
theorem dX11_firstClash_3 : decode cX11_firstClash 3 = .ok (.iload_n 1, 1) := o27 ac_cX11_firstClash_0 3 rfl
theorem dX11_firstClash_4 : decode cX11_firstClash 4 = .ok (.if_icmp .gt 37, 3) := o163p ac_cX11_firstClash_0 4 0 37 rfl rfl
theorem dX11_firstClash_7 : decode cX11_firstClash 7 = .ok (.aload_n 0, 1) := o42 ac_cX11_firstClash_0 7 rfl
theorem dX11_firstClash_8 : decode cX11_firstClash 8 = .ok (.getfield 58, 3) := o180 ac_cX11_firstClash_0 8 0 58 rfl
theorem dX11_firstClash_11 : decode cX11_firstClash 11 = .ok (.invokevirtual 292, 3) := o182 ac_cX11_firstClash_0 11 1 36 rfl
theorem dX11_firstClash_14 : decode cX11_firstClash 14 = .ok (.iconst 1, 1) := o4 ac_cX11_firstClash_0 14 rfl
theorem dX11_firstClash_15 : decode cX11_firstClash 15 = .ok (.if_icmp .le 5, 3) := o164p ac_cX11_firstClash_0 15 0 5 rfl rfl
def kb_cX11_firstClash_16 : List Nat := [0, 5, 28, 172, 42, 180, 0, 19, 42, 180, 0, 82, 42, 180, 0, 58, 182, 1, 29, 132]
theorem ac_cX11_firstClash_16 : AL cX11_firstClash 16 kb_cX11_firstClash_16 := AL.of (m := 20) (by decide +kernel)
theorem dX11_firstClash_20 : decode cX11_firstClash 20 = .ok (.aload_n 0, 1) := o42 ac_cX11_firstClash_16 4 rfl
theorem dX11_firstClash_21 : decode cX11_firstClash 21 = .ok (.getfield 19, 3) := o180 ac_cX11_firstClash_16 5 0 19 rfl
theorem dX11_firstClash_24 : decode cX11_firstClash 24 = .ok (.aload_n 0, 1) := o42 ac_cX11_firstClash_16 8 rfl
theorem dX11_firstClash_25 : decode cX11_firstClash 25 = .ok (.getfield 82, 3) := o180 ac_cX11_firstClash_16 9 0 82 rfl
theorem dX11_firstClash_28 : decode cX11_firstClash 28 = .ok (.aload_n 0, 1) := o42 ac_cX11_firstClash_16 12 rfl
theorem dX11_firstClash_29 : decode cX11_firstClash 29 = .ok (.getfield 58, 3) := o180 ac_cX11_firstClash_16 13 0 58 rfl
def kb_cX11_firstClash_32 : List Nat := [182, 1, 29, 132, 2, 1, 167, 255, 220, 16, 254, 172]
theorem ac_cX11_firstClash_32 : AL cX11_firstClash 32 kb_cX11_firstClash_32 := AL.of (m := 12) (by decide +kernel)
theorem dX11_firstClash_32 : decode cX11_firstClash 32 = .ok (.invokevirtual 285, 3) := o182 ac_cX11_firstClash_32 0 1 29 rfl
theorem dX11_firstClash_35 : decode cX11_firstClash 35 = .ok (.iinc 2 1, 3) := o132p ac_cX11_firstClash_32 3 2 1 rfl rfl
theorem dX11_firstClash_38 : decode cX11_firstClash 38 = .ok (.goto (-36), 3) := o167n ac_cX11_firstClash_32 6 255 220 35 rfl rfl rfl
theorem dX11_firstClash_41 : decode cX11_firstClash 41 = .ok (.bipush (-2), 2) := o16n ac_cX11_firstClash_32 9 254 1 rfl rfl rfl
theorem dX11_firstClash_43 : decode cX11_firstClash 43 = .ok (.ireturn, 1) := o172 ac_cX11_firstClash_32 11 rfl
def kb_cX11_clash_0 : List Nat := [42, 180, 0, 58, 42, 180, 0, 54, 182, 0, 230, 42, 16, 60, 182, 1, 33, 172]
theorem ac_cX11_clash_0 : AL cX11_clash 0 kb_cX11_clash_0 := AL.of (m := 18) (by decide +kernel)
theorem dX11_clash_0 : decode cX11_clash 0 = .ok (.aload_n 0, 1) := o42 ac_cX11_clash_0 0 rfl
theorem dX11_clash_1 : decode cX11_clash 1 = .ok (.getfield 58, 3) := o180 ac_cX11_clash_0 1 0 58 rfl
theorem dX11_clash_4 : decode cX11_clash 4 = .ok (.aload_n 0, 1) := o42 ac_cX11_clash_0 4 rfl
theorem dX11_clash_5 : decode cX11_clash 5 = .ok (.getfield 54, 3) := o180 ac_cX11_clash_0 5 0 54 rfl
theorem dX11_clash_8 : decode cX11_clash 8 = .ok (.invokevirtual 230, 3) := o182 ac_cX11_clash_0 8 0 230 rfl
theorem dX11_clash_11 : decode cX11_clash 11 = .ok (.aload_n 0, 1) := o42 ac_cX11_clash_0 11 rfl
theorem dX11_clash_12 : decode cX11_clash 12 = .ok (.bipush 60, 2) := o16p ac_cX11_clash_0 12 60 rfl rfl
theorem dX11_clash_14 : decode cX11_clash 14 = .ok (.invokevirtual 289, 3) := o182 ac_cX11_clash_0 14 1 33 rfl
def kb_cX11_clash_16 : List Nat := [33, 172]
theorem ac_cX11_clash_16 : AL cX11_clash 16 kb_cX11_clash_16 := AL.of (m := 2) (by decide +kernel)
theorem dX11_clash_17 : decode cX11_clash 17 = .ok (.ireturn, 1) := o172 ac_cX11_clash_16 1 rfl
def kb_cX11_limit_0 : List Nat := [27, 155, 0, 10, 27, 17, 3, 231, 164, 0, 5, 2, 172, 42, 180, 0, 58, 42, 180, 0]
theorem ac_cX11_limit_0 : AL cX11_limit 0 kb_cX11_limit_0 := AL.of (m := 20) (by decide +kernel)
theorem dX11_limit_0 : decode cX11_limit 0 = .ok (.iload_n 1, 1) := o27 ac_cX11_limit_0 0 rfl
theorem dX11_limit_1 : decode cX11_limit 1 = .ok (.ifCond .lt 10, 3) := o155p ac_cX11_limit_0 1 0 10 rfl rfl
theorem dX11_limit_4 : decode cX11_limit 4 = .ok (.iload_n 1, 1) := o27 ac_cX11_limit_0 4 rfl
theorem dX11_limit_5 : decode cX11_limit 5 = .ok (.sipush 999, 3) := o17p ac_cX11_limit_0 5 3 231 rfl rfl
theorem dX11_limit_8 : decode cX11_limit 8 = .ok (.if_icmp .le 5, 3) := o164p ac_cX11_limit_0 8 0 5 rfl rfl
theorem dX11_limit_13 : decode cX11_limit 13 = .ok (.aload_n 0, 1) := o42 ac_cX11_limit_0 13 rfl
theorem dX11_limit_14 : decode cX11_limit 14 = .ok (.getfield 58, 3) := o180 ac_cX11_limit_0 14 0 58 rfl
def kb_cX11_limit_16 : List Nat := [58, 42, 180, 0, 54, 182, 0, 230, 3, 61, 28, 17, 0, 200, 163, 0, 45, 42, 180, 0]
theorem ac_cX11_limit_16 : AL cX11_limit 16 kb_cX11_limit_16 := AL.of (m := 20) (by decide +kernel)
theorem dX11_limit_17 : decode cX11_limit 17 = .ok (.aload_n 0, 1) := o42 ac_cX11_limit_16 1 rfl
theorem dX11_limit_18 : decode cX11_limit 18 = .ok (.getfield 54, 3) := o180 ac_cX11_limit_16 2 0 54 rfl
theorem dX11_limit_21 : decode cX11_limit 21 = .ok (.invokevirtual 230, 3) := o182 ac_cX11_limit_16 5 0 230 rfl
theorem dX11_limit_24 : decode cX11_limit 24 = .ok (.iconst 0, 1) := o3 ac_cX11_limit_16 8 rfl
theorem dX11_limit_25 : decode cX11_limit 25 = .ok (.istore_n 2, 1) := o61 ac_cX11_limit_16 9 rfl
theorem dX11_limit_26 : decode cX11_limit 26 = .ok (.iload_n 2, 1) := o28 ac_cX11_limit_16 10 rfl
theorem dX11_limit_27 : decode cX11_limit 27 = .ok (.sipush 200, 3) := o17p ac_cX11_limit_16 11 0 200 rfl rfl
theorem dX11_limit_30 : decode cX11_limit 30 = .ok (.if_icmp .gt 45, 3) := o163p ac_cX11_limit_16 14 0 45 rfl rfl
def kb_cX11_limit_32 : List Nat := [45, 42, 180, 0, 58, 180, 0, 177, 27, 161, 0, 5, 28, 172, 42, 180, 0, 19, 42, 180]
theorem ac_cX11_limit_32 : AL cX11_limit 32 kb_cX11_limit_32 := AL.of (m := 20) (by decide +kernel)
theorem dX11_limit_33 : decode cX11_limit 33 = .ok (.aload_n 0, 1) := o42 ac_cX11_limit_32 1 rfl
theorem dX11_limit_34 : decode cX11_limit 34 = .ok (.getfield 58, 3) := o180 ac_cX11_limit_32 2 0 58 rfl
theorem dX11_limit_37 : decode cX11_limit 37 = .ok (.getfield 177, 3) := o180 ac_cX11_limit_32 5 0 177 rfl
theorem dX11_limit_40 : decode cX11_limit 40 = .ok (.iload_n 1, 1) := o27 ac_cX11_limit_32 8 rfl
theorem dX11_limit_41 : decode cX11_limit 41 = .ok (.if_icmp .lt 5, 3) := o161p ac_cX11_limit_32 9 0 5 rfl rfl
theorem dX11_limit_44 : decode cX11_limit 44 = .ok (.iload_n 2, 1) := o28 ac_cX11_limit_32 12 rfl
theorem dX11_limit_45 : decode cX11_limit 45 = .ok (.ireturn, 1) := o172 ac_cX11_limit_32 13 rfl
theorem dX11_limit_46 : decode cX11_limit 46 = .ok (.aload_n 0, 1) := o42 ac_cX11_limit_32 14 rfl
theorem dX11_limit_47 : decode cX11_limit 47 = .ok (.getfield 19, 3) := o180 ac_cX11_limit_32 15 0 19 rfl
def kb_cX11_limit_48 : List Nat := [0, 19, 42, 180, 0, 82, 42, 180, 0, 58, 4, 42, 180, 0, 82, 180, 0, 220, 182, 0]
theorem ac_cX11_limit_48 : AL cX11_limit 48 kb_cX11_limit_48 := AL.of (m := 20) (by decide +kernel)
theorem dX11_limit_50 : decode cX11_limit 50 = .ok (.aload_n 0, 1) := o42 ac_cX11_limit_48 2 rfl
theorem dX11_limit_51 : decode cX11_limit 51 = .ok (.getfield 82, 3) := o180 ac_cX11_limit_48 3 0 82 rfl
theorem dX11_limit_54 : decode cX11_limit 54 = .ok (.aload_n 0, 1) := o42 ac_cX11_limit_48 6 rfl
theorem dX11_limit_55 : decode cX11_limit 55 = .ok (.getfield 58, 3) := o180 ac_cX11_limit_48 7 0 58 rfl
theorem dX11_limit_58 : decode cX11_limit 58 = .ok (.iconst 1, 1) := o4 ac_cX11_limit_48 10 rfl
theorem dX11_limit_59 : decode cX11_limit 59 = .ok (.aload_n 0, 1) := o42 ac_cX11_limit_48 11 rfl
theorem dX11_limit_60 : decode cX11_limit 60 = .ok (.getfield 82, 3) := o180 ac_cX11_limit_48 12 0 82 rfl
theorem dX11_limit_63 : decode cX11_limit 63 = .ok (.getfield 220, 3) := o180 ac_cX11_limit_48 15 0 220 rfl
def kb_cX11_limit_64 : List Nat := [0, 220, 182, 0, 223, 132, 2, 1, 167, 255, 210, 16, 254, 172]
theorem ac_cX11_limit_64 : AL cX11_limit 64 kb_cX11_limit_64 := AL.of (m := 14) (by decide +kernel)
theorem dX11_limit_66 : decode cX11_limit 66 = .ok (.invokevirtual 223, 3) := o182 ac_cX11_limit_64 2 0 223 rfl
theorem dX11_limit_69 : decode cX11_limit 69 = .ok (.iinc 2 1, 3) := o132p ac_cX11_limit_64 5 2 1 rfl rfl
theorem dX11_limit_72 : decode cX11_limit 72 = .ok (.goto (-46), 3) := o167n ac_cX11_limit_64 8 255 210 45 rfl rfl rfl
theorem dX11_limit_75 : decode cX11_limit 75 = .ok (.bipush (-2), 2) := o16n ac_cX11_limit_64 11 254 1 rfl rfl rfl
theorem dX11_limit_77 : decode cX11_limit 77 = .ok (.ireturn, 1) := o172 ac_cX11_limit_64 13 rfl
theorem dX11_limit_11 : decode cX11_limit 11 = .ok (.iconst (-1), 1) := o2 ac_cX11_limit_0 11 rfl
theorem dX11_limit_12 : decode cX11_limit 12 = .ok (.ireturn, 1) := o172 ac_cX11_limit_0 12 rfl
def kb_cX11_isSpan_0 : List Nat := [26, 4, 161, 0, 13, 26, 16, 60, 163, 0, 7, 4, 167, 0, 4, 3, 172]
theorem ac_cX11_isSpan_0 : AL cX11_isSpan 0 kb_cX11_isSpan_0 := AL.of (m := 17) (by decide +kernel)
theorem dX11_isSpan_0 : decode cX11_isSpan 0 = .ok (.iload_n 0, 1) := o26 ac_cX11_isSpan_0 0 rfl
theorem dX11_isSpan_1 : decode cX11_isSpan 1 = .ok (.iconst 1, 1) := o4 ac_cX11_isSpan_0 1 rfl
theorem dX11_isSpan_2 : decode cX11_isSpan 2 = .ok (.if_icmp .lt 13, 3) := o161p ac_cX11_isSpan_0 2 0 13 rfl rfl
theorem dX11_isSpan_5 : decode cX11_isSpan 5 = .ok (.iload_n 0, 1) := o26 ac_cX11_isSpan_0 5 rfl
theorem dX11_isSpan_6 : decode cX11_isSpan 6 = .ok (.bipush 60, 2) := o16p ac_cX11_isSpan_0 6 60 rfl rfl
theorem dX11_isSpan_8 : decode cX11_isSpan 8 = .ok (.if_icmp .gt 7, 3) := o163p ac_cX11_isSpan_0 8 0 7 rfl rfl
theorem dX11_isSpan_11 : decode cX11_isSpan 11 = .ok (.iconst 1, 1) := o4 ac_cX11_isSpan_0 11 rfl
theorem dX11_isSpan_12 : decode cX11_isSpan 12 = .ok (.goto 4, 3) := o167p ac_cX11_isSpan_0 12 0 4 rfl rfl
def kb_cX11_isSpan_16 : List Nat := [172]
theorem ac_cX11_isSpan_16 : AL cX11_isSpan 16 kb_cX11_isSpan_16 := AL.of (m := 1) (by decide +kernel)
theorem dX11_isSpan_16 : decode cX11_isSpan 16 = .ok (.ireturn, 1) := o172 ac_cX11_isSpan_16 0 rfl
theorem dX11_isSpan_15 : decode cX11_isSpan 15 = .ok (.iconst 0, 1) := o3 ac_cX11_isSpan_0 15 rfl
def kb_cJ7_fill_53178_0 : List Nat := [3, 61, 42, 190, 62, 28, 29, 162, 0, 13, 42, 28, 27, 79, 132, 2, 1, 167, 255, 244]
theorem ac_cJ7_fill_53178_0 : AL cJ7_fill_53178 0 kb_cJ7_fill_53178_0 := AL.of (m := 20) (by decide +kernel)
theorem dJ7_fill_53178_0 : decode cJ7_fill_53178 0 = .ok (.iconst 0, 1) := o3 ac_cJ7_fill_53178_0 0 rfl
theorem dJ7_fill_53178_1 : decode cJ7_fill_53178 1 = .ok (.istore_n 2, 1) := o61 ac_cJ7_fill_53178_0 1 rfl
theorem dJ7_fill_53178_2 : decode cJ7_fill_53178 2 = .ok (.aload_n 0, 1) := o42 ac_cJ7_fill_53178_0 2 rfl
theorem dJ7_fill_53178_3 : decode cJ7_fill_53178 3 = .ok (.arraylength, 1) := o190 ac_cJ7_fill_53178_0 3 rfl
theorem dJ7_fill_53178_4 : decode cJ7_fill_53178 4 = .ok (.istore_n 3, 1) := o62 ac_cJ7_fill_53178_0 4 rfl
theorem dJ7_fill_53178_5 : decode cJ7_fill_53178 5 = .ok (.iload_n 2, 1) := o28 ac_cJ7_fill_53178_0 5 rfl
theorem dJ7_fill_53178_6 : decode cJ7_fill_53178 6 = .ok (.iload_n 3, 1) := o29 ac_cJ7_fill_53178_0 6 rfl
theorem dJ7_fill_53178_7 : decode cJ7_fill_53178 7 = .ok (.if_icmp .ge 13, 3) := o162p ac_cJ7_fill_53178_0 7 0 13 rfl rfl
theorem dJ7_fill_53178_10 : decode cJ7_fill_53178 10 = .ok (.aload_n 0, 1) := o42 ac_cJ7_fill_53178_0 10 rfl
theorem dJ7_fill_53178_11 : decode cJ7_fill_53178 11 = .ok (.iload_n 2, 1) := o28 ac_cJ7_fill_53178_0 11 rfl
theorem dJ7_fill_53178_12 : decode cJ7_fill_53178 12 = .ok (.iload_n 1, 1) := o27 ac_cJ7_fill_53178_0 12 rfl
theorem dJ7_fill_53178_13 : decode cJ7_fill_53178 13 = .ok (.iastore, 1) := o79 ac_cJ7_fill_53178_0 13 rfl
theorem dJ7_fill_53178_14 : decode cJ7_fill_53178 14 = .ok (.iinc 2 1, 3) := o132p ac_cJ7_fill_53178_0 14 2 1 rfl rfl
def kb_cJ7_fill_53178_16 : List Nat := [1, 167, 255, 244, 177]
theorem ac_cJ7_fill_53178_16 : AL cJ7_fill_53178 16 kb_cJ7_fill_53178_16 := AL.of (m := 5) (by decide +kernel)
theorem dJ7_fill_53178_17 : decode cJ7_fill_53178 17 = .ok (.goto (-12), 3) := o167n ac_cJ7_fill_53178_16 1 255 244 11 rfl rfl rfl
theorem dJ7_fill_53178_20 : decode cJ7_fill_53178 20 = .ok (.return_, 1) := o177 ac_cJ7_fill_53178_16 4 rfl
def kb_cX11_busiest_0 : List Nat := [27, 184, 1, 51, 153, 0, 12, 28, 155, 0, 8, 28, 4, 164, 0, 5, 2, 172, 42, 27]
theorem ac_cX11_busiest_0 : AL cX11_busiest 0 kb_cX11_busiest_0 := AL.of (m := 20) (by decide +kernel)
theorem dX11_busiest_0 : decode cX11_busiest 0 = .ok (.iload_n 1, 1) := o27 ac_cX11_busiest_0 0 rfl
theorem dX11_busiest_1 : decode cX11_busiest 1 = .ok (.invokestatic 307, 3) := o184 ac_cX11_busiest_0 1 1 51 rfl
theorem dX11_busiest_4 : decode cX11_busiest 4 = .ok (.ifCond .eq 12, 3) := o153p ac_cX11_busiest_0 4 0 12 rfl rfl
theorem dX11_busiest_7 : decode cX11_busiest 7 = .ok (.iload_n 2, 1) := o28 ac_cX11_busiest_0 7 rfl
theorem dX11_busiest_8 : decode cX11_busiest 8 = .ok (.ifCond .lt 8, 3) := o155p ac_cX11_busiest_0 8 0 8 rfl rfl
theorem dX11_busiest_11 : decode cX11_busiest 11 = .ok (.iload_n 2, 1) := o28 ac_cX11_busiest_0 11 rfl
theorem dX11_busiest_12 : decode cX11_busiest 12 = .ok (.iconst 1, 1) := o4 ac_cX11_busiest_0 12 rfl
theorem dX11_busiest_13 : decode cX11_busiest 13 = .ok (.if_icmp .le 5, 3) := o164p ac_cX11_busiest_0 13 0 5 rfl rfl
def kb_cX11_busiest_16 : List Nat := [2, 172, 42, 27, 182, 1, 23, 42, 180, 0, 73, 3, 184, 1, 54, 3, 62, 29, 27, 162]
theorem ac_cX11_busiest_16 : AL cX11_busiest 16 kb_cX11_busiest_16 := AL.of (m := 20) (by decide +kernel)
theorem dX11_busiest_18 : decode cX11_busiest 18 = .ok (.aload_n 0, 1) := o42 ac_cX11_busiest_16 2 rfl
theorem dX11_busiest_19 : decode cX11_busiest 19 = .ok (.iload_n 1, 1) := o27 ac_cX11_busiest_16 3 rfl
theorem dX11_busiest_20 : decode cX11_busiest 20 = .ok (.invokevirtual 279, 3) := o182 ac_cX11_busiest_16 4 1 23 rfl
theorem dX11_busiest_23 : decode cX11_busiest 23 = .ok (.aload_n 0, 1) := o42 ac_cX11_busiest_16 7 rfl
theorem dX11_busiest_24 : decode cX11_busiest 24 = .ok (.getfield 73, 3) := o180 ac_cX11_busiest_16 8 0 73 rfl
theorem dX11_busiest_27 : decode cX11_busiest 27 = .ok (.iconst 0, 1) := o3 ac_cX11_busiest_16 11 rfl
theorem dX11_busiest_28 : decode cX11_busiest 28 = .ok (.invokestatic 310, 3) := o184 ac_cX11_busiest_16 12 1 54 rfl
theorem dX11_busiest_31 : decode cX11_busiest 31 = .ok (.iconst 0, 1) := o3 ac_cX11_busiest_16 15 rfl
def kb_cX11_busiest_32 : List Nat := [62, 29, 27, 162, 0, 40, 42, 180, 0, 82, 42, 180, 0, 69, 29, 46, 182, 0, 121, 153]
theorem ac_cX11_busiest_32 : AL cX11_busiest 32 kb_cX11_busiest_32 := AL.of (m := 20) (by decide +kernel)
theorem dX11_busiest_32 : decode cX11_busiest 32 = .ok (.istore_n 3, 1) := o62 ac_cX11_busiest_32 0 rfl
theorem dX11_busiest_33 : decode cX11_busiest 33 = .ok (.iload_n 3, 1) := o29 ac_cX11_busiest_32 1 rfl
theorem dX11_busiest_34 : decode cX11_busiest 34 = .ok (.iload_n 1, 1) := o27 ac_cX11_busiest_32 2 rfl
theorem dX11_busiest_35 : decode cX11_busiest 35 = .ok (.if_icmp .ge 40, 3) := o162p ac_cX11_busiest_32 3 0 40 rfl rfl
theorem dX11_busiest_38 : decode cX11_busiest 38 = .ok (.aload_n 0, 1) := o42 ac_cX11_busiest_32 6 rfl
theorem dX11_busiest_39 : decode cX11_busiest 39 = .ok (.getfield 82, 3) := o180 ac_cX11_busiest_32 7 0 82 rfl
theorem dX11_busiest_42 : decode cX11_busiest 42 = .ok (.aload_n 0, 1) := o42 ac_cX11_busiest_32 10 rfl
theorem dX11_busiest_43 : decode cX11_busiest 43 = .ok (.getfield 69, 3) := o180 ac_cX11_busiest_32 11 0 69 rfl
theorem dX11_busiest_46 : decode cX11_busiest 46 = .ok (.iload_n 3, 1) := o29 ac_cX11_busiest_32 14 rfl
theorem dX11_busiest_47 : decode cX11_busiest 47 = .ok (.iaload, 1) := o46 ac_cX11_busiest_32 15 rfl
def kb_cX11_busiest_48 : List Nat := [182, 0, 121, 153, 0, 18, 42, 180, 0, 73, 42, 180, 0, 69, 29, 46, 92, 46, 4, 96]
theorem ac_cX11_busiest_48 : AL cX11_busiest 48 kb_cX11_busiest_48 := AL.of (m := 20) (by decide +kernel)
theorem dX11_busiest_48 : decode cX11_busiest 48 = .ok (.invokevirtual 121, 3) := o182 ac_cX11_busiest_48 0 0 121 rfl
theorem dX11_busiest_51 : decode cX11_busiest 51 = .ok (.ifCond .eq 18, 3) := o153p ac_cX11_busiest_48 3 0 18 rfl rfl
def kb_cX11_busiest_64 : List Nat := [92, 46, 4, 96, 79, 132, 3, 1, 167, 255, 217, 3, 62, 4, 54, 4, 21, 4, 16, 7]
theorem ac_cX11_busiest_64 : AL cX11_busiest 64 kb_cX11_busiest_64 := AL.of (m := 20) (by decide +kernel)
theorem dX11_busiest_69 : decode cX11_busiest 69 = .ok (.iinc 3 1, 3) := o132p ac_cX11_busiest_64 5 3 1 rfl rfl
theorem dX11_busiest_72 : decode cX11_busiest 72 = .ok (.goto (-39), 3) := o167n ac_cX11_busiest_64 8 255 217 38 rfl rfl rfl
theorem dX11_busiest_75 : decode cX11_busiest 75 = .ok (.iconst 0, 1) := o3 ac_cX11_busiest_64 11 rfl
theorem dX11_busiest_76 : decode cX11_busiest 76 = .ok (.istore_n 3, 1) := o62 ac_cX11_busiest_64 12 rfl
theorem dX11_busiest_77 : decode cX11_busiest 77 = .ok (.iconst 1, 1) := o4 ac_cX11_busiest_64 13 rfl
theorem dX11_busiest_78 : decode cX11_busiest 78 = .ok (.istore 4, 2) := o54 ac_cX11_busiest_64 14 4 rfl
def kb_cX11_busiest_80 : List Nat := [21, 4, 16, 7, 162, 0, 28, 42, 180, 0, 73, 21, 4, 46, 42, 180, 0, 73, 29, 46]
theorem ac_cX11_busiest_80 : AL cX11_busiest 80 kb_cX11_busiest_80 := AL.of (m := 20) (by decide +kernel)
theorem dX11_busiest_80 : decode cX11_busiest 80 = .ok (.iload 4, 2) := o21 ac_cX11_busiest_80 0 4 rfl
theorem dX11_busiest_82 : decode cX11_busiest 82 = .ok (.bipush 7, 2) := o16p ac_cX11_busiest_80 2 7 rfl rfl
theorem dX11_busiest_84 : decode cX11_busiest 84 = .ok (.if_icmp .ge 28, 3) := o162p ac_cX11_busiest_80 4 0 28 rfl rfl
theorem dX11_busiest_87 : decode cX11_busiest 87 = .ok (.aload_n 0, 1) := o42 ac_cX11_busiest_80 7 rfl
theorem dX11_busiest_88 : decode cX11_busiest 88 = .ok (.getfield 73, 3) := o180 ac_cX11_busiest_80 8 0 73 rfl
theorem dX11_busiest_91 : decode cX11_busiest 91 = .ok (.iload 4, 2) := o21 ac_cX11_busiest_80 11 4 rfl
theorem dX11_busiest_93 : decode cX11_busiest 93 = .ok (.iaload, 1) := o46 ac_cX11_busiest_80 13 rfl
theorem dX11_busiest_94 : decode cX11_busiest 94 = .ok (.aload_n 0, 1) := o42 ac_cX11_busiest_80 14 rfl
theorem dX11_busiest_95 : decode cX11_busiest 95 = .ok (.getfield 73, 3) := o180 ac_cX11_busiest_80 15 0 73 rfl
def kb_cX11_busiest_96 : List Nat := [0, 73, 29, 46, 164, 0, 6, 21, 4, 62, 132, 4, 1, 167, 255, 227, 42, 180, 0, 73]
theorem ac_cX11_busiest_96 : AL cX11_busiest 96 kb_cX11_busiest_96 := AL.of (m := 20) (by decide +kernel)
theorem dX11_busiest_98 : decode cX11_busiest 98 = .ok (.iload_n 3, 1) := o29 ac_cX11_busiest_96 2 rfl
theorem dX11_busiest_99 : decode cX11_busiest 99 = .ok (.iaload, 1) := o46 ac_cX11_busiest_96 3 rfl
theorem dX11_busiest_100 : decode cX11_busiest 100 = .ok (.if_icmp .le 6, 3) := o164p ac_cX11_busiest_96 4 0 6 rfl rfl
theorem dX11_busiest_106 : decode cX11_busiest 106 = .ok (.iinc 4 1, 3) := o132p ac_cX11_busiest_96 10 4 1 rfl rfl
theorem dX11_busiest_109 : decode cX11_busiest 109 = .ok (.goto (-29), 3) := o167n ac_cX11_busiest_96 13 255 227 28 rfl rfl rfl
def kb_cX11_busiest_112 : List Nat := [42, 180, 0, 73, 29, 46, 154, 0, 6, 16, 254, 172, 28, 154, 0, 7, 29, 167, 0, 9]
theorem ac_cX11_busiest_112 : AL cX11_busiest 112 kb_cX11_busiest_112 := AL.of (m := 20) (by decide +kernel)
theorem dX11_busiest_112 : decode cX11_busiest 112 = .ok (.aload_n 0, 1) := o42 ac_cX11_busiest_112 0 rfl
theorem dX11_busiest_113 : decode cX11_busiest 113 = .ok (.getfield 73, 3) := o180 ac_cX11_busiest_112 1 0 73 rfl
theorem dX11_busiest_116 : decode cX11_busiest 116 = .ok (.iload_n 3, 1) := o29 ac_cX11_busiest_112 4 rfl
theorem dX11_busiest_117 : decode cX11_busiest 117 = .ok (.iaload, 1) := o46 ac_cX11_busiest_112 5 rfl
theorem dX11_busiest_118 : decode cX11_busiest 118 = .ok (.ifCond .ne 6, 3) := o154p ac_cX11_busiest_112 6 0 6 rfl rfl
theorem dX11_busiest_121 : decode cX11_busiest 121 = .ok (.bipush (-2), 2) := o16n ac_cX11_busiest_112 9 254 1 rfl rfl rfl
theorem dX11_busiest_123 : decode cX11_busiest 123 = .ok (.ireturn, 1) := o172 ac_cX11_busiest_112 11 rfl
theorem dX11_busiest_16 : decode cX11_busiest 16 = .ok (.iconst (-1), 1) := o2 ac_cX11_busiest_16 0 rfl
theorem dX11_busiest_17 : decode cX11_busiest 17 = .ok (.ireturn, 1) := o172 ac_cX11_busiest_16 1 rfl
def kb_cX11_load_0 : List Nat := [27, 184, 1, 51, 154, 0, 5, 2, 172, 42, 27, 182, 1, 23, 3, 61, 3, 62, 29, 27]
theorem ac_cX11_load_0 : AL cX11_load 0 kb_cX11_load_0 := AL.of (m := 20) (by decide +kernel)
theorem dX11_load_0 : decode cX11_load 0 = .ok (.iload_n 1, 1) := o27 ac_cX11_load_0 0 rfl
theorem dX11_load_1 : decode cX11_load 1 = .ok (.invokestatic 307, 3) := o184 ac_cX11_load_0 1 1 51 rfl
theorem dX11_load_4 : decode cX11_load 4 = .ok (.ifCond .ne 5, 3) := o154p ac_cX11_load_0 4 0 5 rfl rfl
theorem dX11_load_9 : decode cX11_load 9 = .ok (.aload_n 0, 1) := o42 ac_cX11_load_0 9 rfl
theorem dX11_load_10 : decode cX11_load 10 = .ok (.iload_n 1, 1) := o27 ac_cX11_load_0 10 rfl
theorem dX11_load_11 : decode cX11_load 11 = .ok (.invokevirtual 279, 3) := o182 ac_cX11_load_0 11 1 23 rfl
theorem dX11_load_14 : decode cX11_load 14 = .ok (.iconst 0, 1) := o3 ac_cX11_load_0 14 rfl
theorem dX11_load_15 : decode cX11_load 15 = .ok (.istore_n 2, 1) := o61 ac_cX11_load_0 15 rfl
def kb_cX11_load_16 : List Nat := [3, 62, 29, 27, 162, 0, 42, 42, 180, 0, 82, 42, 180, 0, 69, 29, 46, 182, 0, 121]
theorem ac_cX11_load_16 : AL cX11_load 16 kb_cX11_load_16 := AL.of (m := 20) (by decide +kernel)
theorem dX11_load_16 : decode cX11_load 16 = .ok (.iconst 0, 1) := o3 ac_cX11_load_16 0 rfl
theorem dX11_load_17 : decode cX11_load 17 = .ok (.istore_n 3, 1) := o62 ac_cX11_load_16 1 rfl
theorem dX11_load_18 : decode cX11_load 18 = .ok (.iload_n 3, 1) := o29 ac_cX11_load_16 2 rfl
theorem dX11_load_19 : decode cX11_load 19 = .ok (.iload_n 1, 1) := o27 ac_cX11_load_16 3 rfl
theorem dX11_load_20 : decode cX11_load 20 = .ok (.if_icmp .ge 42, 3) := o162p ac_cX11_load_16 4 0 42 rfl rfl
theorem dX11_load_23 : decode cX11_load 23 = .ok (.aload_n 0, 1) := o42 ac_cX11_load_16 7 rfl
theorem dX11_load_24 : decode cX11_load 24 = .ok (.getfield 82, 3) := o180 ac_cX11_load_16 8 0 82 rfl
theorem dX11_load_27 : decode cX11_load 27 = .ok (.aload_n 0, 1) := o42 ac_cX11_load_16 11 rfl
theorem dX11_load_28 : decode cX11_load 28 = .ok (.getfield 69, 3) := o180 ac_cX11_load_16 12 0 69 rfl
theorem dX11_load_31 : decode cX11_load 31 = .ok (.iload_n 3, 1) := o29 ac_cX11_load_16 15 rfl
def kb_cX11_load_32 : List Nat := [46, 182, 0, 121, 153, 0, 20, 28, 42, 180, 0, 82, 180, 0, 125, 42, 180, 0, 69, 29]
theorem ac_cX11_load_32 : AL cX11_load 32 kb_cX11_load_32 := AL.of (m := 20) (by decide +kernel)
theorem dX11_load_32 : decode cX11_load 32 = .ok (.iaload, 1) := o46 ac_cX11_load_32 0 rfl
theorem dX11_load_33 : decode cX11_load 33 = .ok (.invokevirtual 121, 3) := o182 ac_cX11_load_32 1 0 121 rfl
theorem dX11_load_36 : decode cX11_load 36 = .ok (.ifCond .eq 20, 3) := o153p ac_cX11_load_32 4 0 20 rfl rfl
def kb_cX11_load_48 : List Nat := [180, 0, 69, 29, 46, 46, 96, 61, 132, 3, 1, 167, 255, 215, 28, 172]
theorem ac_cX11_load_48 : AL cX11_load 48 kb_cX11_load_48 := AL.of (m := 16) (by decide +kernel)
theorem dX11_load_56 : decode cX11_load 56 = .ok (.iinc 3 1, 3) := o132p ac_cX11_load_48 8 3 1 rfl rfl
theorem dX11_load_59 : decode cX11_load 59 = .ok (.goto (-41), 3) := o167n ac_cX11_load_48 11 255 215 40 rfl rfl rfl
theorem dX11_load_62 : decode cX11_load 62 = .ok (.iload_n 2, 1) := o28 ac_cX11_load_48 14 rfl
theorem dX11_load_63 : decode cX11_load 63 = .ok (.ireturn, 1) := o172 ac_cX11_load_48 15 rfl
def kb_cX11_rule_0 : List Nat := [27, 184, 1, 51, 154, 0, 7, 19, 1, 60, 172, 42, 180, 0, 58, 42, 180, 0, 54, 182]
theorem ac_cX11_rule_0 : AL cX11_rule 0 kb_cX11_rule_0 := AL.of (m := 20) (by decide +kernel)
theorem dX11_rule_0 : decode cX11_rule 0 = .ok (.iload_n 1, 1) := o27 ac_cX11_rule_0 0 rfl
theorem dX11_rule_1 : decode cX11_rule 1 = .ok (.invokestatic 307, 3) := o184 ac_cX11_rule_0 1 1 51 rfl
theorem dX11_rule_4 : decode cX11_rule 4 = .ok (.ifCond .ne 7, 3) := o154p ac_cX11_rule_0 4 0 7 rfl rfl
theorem dX11_rule_11 : decode cX11_rule 11 = .ok (.aload_n 0, 1) := o42 ac_cX11_rule_0 11 rfl
theorem dX11_rule_12 : decode cX11_rule 12 = .ok (.getfield 58, 3) := o180 ac_cX11_rule_0 12 0 58 rfl
theorem dX11_rule_15 : decode cX11_rule 15 = .ok (.aload_n 0, 1) := o42 ac_cX11_rule_0 15 rfl
def kb_cX11_rule_16 : List Nat := [180, 0, 54, 182, 0, 230, 3, 61, 3, 62, 29, 27, 162, 0, 42, 28, 42, 180, 0, 19]
theorem ac_cX11_rule_16 : AL cX11_rule 16 kb_cX11_rule_16 := AL.of (m := 20) (by decide +kernel)
theorem dX11_rule_16 : decode cX11_rule 16 = .ok (.getfield 54, 3) := o180 ac_cX11_rule_16 0 0 54 rfl
theorem dX11_rule_19 : decode cX11_rule 19 = .ok (.invokevirtual 230, 3) := o182 ac_cX11_rule_16 3 0 230 rfl
theorem dX11_rule_22 : decode cX11_rule 22 = .ok (.iconst 0, 1) := o3 ac_cX11_rule_16 6 rfl
theorem dX11_rule_23 : decode cX11_rule 23 = .ok (.istore_n 2, 1) := o61 ac_cX11_rule_16 7 rfl
theorem dX11_rule_24 : decode cX11_rule 24 = .ok (.iconst 0, 1) := o3 ac_cX11_rule_16 8 rfl
theorem dX11_rule_25 : decode cX11_rule 25 = .ok (.istore_n 3, 1) := o62 ac_cX11_rule_16 9 rfl
theorem dX11_rule_26 : decode cX11_rule 26 = .ok (.iload_n 3, 1) := o29 ac_cX11_rule_16 10 rfl
theorem dX11_rule_27 : decode cX11_rule 27 = .ok (.iload_n 1, 1) := o27 ac_cX11_rule_16 11 rfl
theorem dX11_rule_28 : decode cX11_rule 28 = .ok (.if_icmp .ge 42, 3) := o162p ac_cX11_rule_16 12 0 42 rfl rfl
theorem dX11_rule_31 : decode cX11_rule 31 = .ok (.iload_n 2, 1) := o28 ac_cX11_rule_16 15 rfl
def kb_cX11_rule_32 : List Nat := [42, 180, 0, 19, 42, 180, 0, 82, 42, 180, 0, 58, 182, 1, 61, 96, 61, 42, 180, 0]
theorem ac_cX11_rule_32 : AL cX11_rule 32 kb_cX11_rule_32 := AL.of (m := 20) (by decide +kernel)
theorem dX11_rule_32 : decode cX11_rule 32 = .ok (.aload_n 0, 1) := o42 ac_cX11_rule_32 0 rfl
theorem dX11_rule_33 : decode cX11_rule 33 = .ok (.getfield 19, 3) := o180 ac_cX11_rule_32 1 0 19 rfl
theorem dX11_rule_36 : decode cX11_rule 36 = .ok (.aload_n 0, 1) := o42 ac_cX11_rule_32 4 rfl
theorem dX11_rule_37 : decode cX11_rule 37 = .ok (.getfield 82, 3) := o180 ac_cX11_rule_32 5 0 82 rfl
theorem dX11_rule_40 : decode cX11_rule 40 = .ok (.aload_n 0, 1) := o42 ac_cX11_rule_32 8 rfl
theorem dX11_rule_41 : decode cX11_rule 41 = .ok (.getfield 58, 3) := o180 ac_cX11_rule_32 9 0 58 rfl
theorem dX11_rule_44 : decode cX11_rule 44 = .ok (.invokevirtual 317, 3) := o182 ac_cX11_rule_32 12 1 61 rfl
theorem dX11_rule_47 : decode cX11_rule 47 = .ok (.iadd, 1) := o96 ac_cX11_rule_32 15 rfl
def kb_cX11_rule_48 : List Nat := [61, 42, 180, 0, 19, 42, 180, 0, 82, 42, 180, 0, 58, 182, 1, 29, 132, 3, 1, 167]
theorem ac_cX11_rule_48 : AL cX11_rule 48 kb_cX11_rule_48 := AL.of (m := 20) (by decide +kernel)
theorem dX11_rule_48 : decode cX11_rule 48 = .ok (.istore_n 2, 1) := o61 ac_cX11_rule_48 0 rfl
theorem dX11_rule_49 : decode cX11_rule 49 = .ok (.aload_n 0, 1) := o42 ac_cX11_rule_48 1 rfl
theorem dX11_rule_50 : decode cX11_rule 50 = .ok (.getfield 19, 3) := o180 ac_cX11_rule_48 2 0 19 rfl
theorem dX11_rule_53 : decode cX11_rule 53 = .ok (.aload_n 0, 1) := o42 ac_cX11_rule_48 5 rfl
theorem dX11_rule_54 : decode cX11_rule 54 = .ok (.getfield 82, 3) := o180 ac_cX11_rule_48 6 0 82 rfl
theorem dX11_rule_57 : decode cX11_rule 57 = .ok (.aload_n 0, 1) := o42 ac_cX11_rule_48 9 rfl
theorem dX11_rule_58 : decode cX11_rule 58 = .ok (.getfield 58, 3) := o180 ac_cX11_rule_48 10 0 58 rfl
theorem dX11_rule_61 : decode cX11_rule 61 = .ok (.invokevirtual 285, 3) := o182 ac_cX11_rule_48 13 1 29 rfl
def kb_cX11_rule_64 : List Nat := [132, 3, 1, 167, 255, 215, 28, 172]
theorem ac_cX11_rule_64 : AL cX11_rule 64 kb_cX11_rule_64 := AL.of (m := 8) (by decide +kernel)
theorem dX11_rule_64 : decode cX11_rule 64 = .ok (.iinc 3 1, 3) := o132p ac_cX11_rule_64 0 3 1 rfl rfl
theorem dX11_rule_67 : decode cX11_rule 67 = .ok (.goto (-41), 3) := o167n ac_cX11_rule_64 3 255 215 40 rfl rfl rfl
theorem dX11_rule_70 : decode cX11_rule 70 = .ok (.iload_n 2, 1) := o28 ac_cX11_rule_64 6 rfl
theorem dX11_rule_71 : decode cX11_rule 71 = .ok (.ireturn, 1) := o172 ac_cX11_rule_64 7 rfl
def kb_cX11_light_0 : List Nat := [27, 184, 1, 51, 153, 0, 12, 28, 155, 0, 8, 28, 4, 164, 0, 5, 2, 172, 16, 254]
theorem ac_cX11_light_0 : AL cX11_light 0 kb_cX11_light_0 := AL.of (m := 20) (by decide +kernel)
theorem dX11_light_0 : decode cX11_light 0 = .ok (.iload_n 1, 1) := o27 ac_cX11_light_0 0 rfl
theorem dX11_light_1 : decode cX11_light 1 = .ok (.invokestatic 307, 3) := o184 ac_cX11_light_0 1 1 51 rfl
theorem dX11_light_4 : decode cX11_light 4 = .ok (.ifCond .eq 12, 3) := o153p ac_cX11_light_0 4 0 12 rfl rfl
theorem dX11_light_7 : decode cX11_light 7 = .ok (.iload_n 2, 1) := o28 ac_cX11_light_0 7 rfl
theorem dX11_light_8 : decode cX11_light 8 = .ok (.ifCond .lt 8, 3) := o155p ac_cX11_light_0 8 0 8 rfl rfl
theorem dX11_light_11 : decode cX11_light 11 = .ok (.iload_n 2, 1) := o28 ac_cX11_light_0 11 rfl
theorem dX11_light_12 : decode cX11_light 12 = .ok (.iconst 1, 1) := o4 ac_cX11_light_0 12 rfl
theorem dX11_light_13 : decode cX11_light 13 = .ok (.if_icmp .le 5, 3) := o164p ac_cX11_light_0 13 0 5 rfl rfl
def kb_cX11_light_16 : List Nat := [2, 172, 16, 254, 62, 16, 254, 54, 4, 3, 54, 5, 21, 5, 42, 180, 0, 82, 180, 0]
theorem ac_cX11_light_16 : AL cX11_light 16 kb_cX11_light_16 := AL.of (m := 20) (by decide +kernel)
theorem dX11_light_18 : decode cX11_light 18 = .ok (.bipush (-2), 2) := o16n ac_cX11_light_16 2 254 1 rfl rfl rfl
theorem dX11_light_20 : decode cX11_light 20 = .ok (.istore_n 3, 1) := o62 ac_cX11_light_16 4 rfl
theorem dX11_light_21 : decode cX11_light 21 = .ok (.bipush (-2), 2) := o16n ac_cX11_light_16 5 254 1 rfl rfl rfl
theorem dX11_light_23 : decode cX11_light 23 = .ok (.istore 4, 2) := o54 ac_cX11_light_16 7 4 rfl
theorem dX11_light_25 : decode cX11_light 25 = .ok (.iconst 0, 1) := o3 ac_cX11_light_16 9 rfl
theorem dX11_light_26 : decode cX11_light 26 = .ok (.istore 5, 2) := o54 ac_cX11_light_16 10 5 rfl
theorem dX11_light_28 : decode cX11_light 28 = .ok (.iload 5, 2) := o21 ac_cX11_light_16 12 5 rfl
theorem dX11_light_30 : decode cX11_light 30 = .ok (.aload_n 0, 1) := o42 ac_cX11_light_16 14 rfl
theorem dX11_light_31 : decode cX11_light 31 = .ok (.getfield 82, 3) := o180 ac_cX11_light_16 15 0 82 rfl
def kb_cX11_light_32 : List Nat := [0, 82, 180, 0, 171, 162, 0, 116, 42, 180, 0, 82, 180, 0, 149, 21, 5, 50, 42, 180]
theorem ac_cX11_light_32 : AL cX11_light 32 kb_cX11_light_32 := AL.of (m := 20) (by decide +kernel)
theorem dX11_light_34 : decode cX11_light 34 = .ok (.getfield 171, 3) := o180 ac_cX11_light_32 2 0 171 rfl
theorem dX11_light_37 : decode cX11_light 37 = .ok (.if_icmp .ge 116, 3) := o162p ac_cX11_light_32 5 0 116 rfl rfl
def kb_cX11_light_144 : List Nat := [177, 54, 4, 132, 5, 1, 167, 255, 134, 28, 154, 0, 7, 29, 167, 0, 5, 21, 4, 172]
theorem ac_cX11_light_144 : AL cX11_light 144 kb_cX11_light_144 := AL.of (m := 20) (by decide +kernel)
theorem dX11_light_153 : decode cX11_light 153 = .ok (.iload_n 2, 1) := o28 ac_cX11_light_144 9 rfl
theorem dX11_light_154 : decode cX11_light 154 = .ok (.ifCond .ne 7, 3) := o154p ac_cX11_light_144 10 0 7 rfl rfl
theorem dX11_light_157 : decode cX11_light 157 = .ok (.iload_n 3, 1) := o29 ac_cX11_light_144 13 rfl
theorem dX11_light_158 : decode cX11_light 158 = .ok (.goto 5, 3) := o167p ac_cX11_light_144 14 0 5 rfl rfl
def kb_cX11_light_160 : List Nat := [5, 21, 4, 172]
theorem ac_cX11_light_160 : AL cX11_light 160 kb_cX11_light_160 := AL.of (m := 4) (by decide +kernel)
theorem dX11_light_161 : decode cX11_light 161 = .ok (.iload 4, 2) := o21 ac_cX11_light_160 1 4 rfl
theorem dX11_light_163 : decode cX11_light 163 = .ok (.ireturn, 1) := o172 ac_cX11_light_160 3 rfl
theorem dX11_light_16 : decode cX11_light 16 = .ok (.iconst (-1), 1) := o2 ac_cX11_light_16 0 rfl
theorem dX11_light_17 : decode cX11_light 17 = .ok (.ireturn, 1) := o172 ac_cX11_light_16 1 rfl
theorem dX11_load_7 : decode cX11_load 7 = .ok (.iconst (-1), 1) := o2 ac_cX11_load_0 7 rfl
theorem dX11_load_8 : decode cX11_load 8 = .ok (.ireturn, 1) := o172 ac_cX11_load_0 8 rfl
theorem dX11_rule_7 : decode cX11_rule 7 = .ok (.ldc_w 316, 3) := o19 ac_cX11_rule_0 7 1 60 rfl
theorem dX11_rule_10 : decode cX11_rule 10 = .ok (.ireturn, 1) := o172 ac_cX11_rule_0 10 rfl
def kb_cX11_order_0 : List Nat := [27, 155, 0, 9, 27, 16, 7, 161, 0, 5, 2, 172, 3, 61, 3, 62, 29, 16, 9, 163]
theorem ac_cX11_order_0 : AL cX11_order 0 kb_cX11_order_0 := AL.of (m := 20) (by decide +kernel)
theorem dX11_order_0 : decode cX11_order 0 = .ok (.iload_n 1, 1) := o27 ac_cX11_order_0 0 rfl
theorem dX11_order_1 : decode cX11_order 1 = .ok (.ifCond .lt 9, 3) := o155p ac_cX11_order_0 1 0 9 rfl rfl
theorem dX11_order_4 : decode cX11_order 4 = .ok (.iload_n 1, 1) := o27 ac_cX11_order_0 4 rfl
theorem dX11_order_5 : decode cX11_order 5 = .ok (.bipush 7, 2) := o16p ac_cX11_order_0 5 7 rfl rfl
theorem dX11_order_7 : decode cX11_order 7 = .ok (.if_icmp .lt 5, 3) := o161p ac_cX11_order_0 7 0 5 rfl rfl
theorem dX11_order_10 : decode cX11_order 10 = .ok (.iconst (-1), 1) := o2 ac_cX11_order_0 10 rfl
theorem dX11_order_11 : decode cX11_order 11 = .ok (.ireturn, 1) := o172 ac_cX11_order_0 11 rfl
theorem dX11_order_12 : decode cX11_order 12 = .ok (.iconst 0, 1) := o3 ac_cX11_order_0 12 rfl
theorem dX11_order_13 : decode cX11_order 13 = .ok (.istore_n 2, 1) := o61 ac_cX11_order_0 13 rfl
theorem dX11_order_14 : decode cX11_order 14 = .ok (.iconst 0, 1) := o3 ac_cX11_order_0 14 rfl
theorem dX11_order_15 : decode cX11_order 15 = .ok (.istore_n 3, 1) := o62 ac_cX11_order_0 15 rfl
def kb_cX11_order_16 : List Nat := [29, 16, 9, 163, 0, 67, 3, 54, 4, 21, 4, 42, 180, 0, 54, 180, 1, 65, 162, 0]
theorem ac_cX11_order_16 : AL cX11_order 16 kb_cX11_order_16 := AL.of (m := 20) (by decide +kernel)
theorem dX11_order_16 : decode cX11_order 16 = .ok (.iload_n 3, 1) := o29 ac_cX11_order_16 0 rfl
theorem dX11_order_17 : decode cX11_order 17 = .ok (.bipush 9, 2) := o16p ac_cX11_order_16 1 9 rfl rfl
theorem dX11_order_19 : decode cX11_order 19 = .ok (.if_icmp .gt 67, 3) := o163p ac_cX11_order_16 3 0 67 rfl rfl
theorem dX11_order_22 : decode cX11_order 22 = .ok (.iconst 0, 1) := o3 ac_cX11_order_16 6 rfl
theorem dX11_order_23 : decode cX11_order 23 = .ok (.istore 4, 2) := o54 ac_cX11_order_16 7 4 rfl
theorem dX11_order_25 : decode cX11_order 25 = .ok (.iload 4, 2) := o21 ac_cX11_order_16 9 4 rfl
theorem dX11_order_27 : decode cX11_order 27 = .ok (.aload_n 0, 1) := o42 ac_cX11_order_16 11 rfl
theorem dX11_order_28 : decode cX11_order 28 = .ok (.getfield 54, 3) := o180 ac_cX11_order_16 12 0 54 rfl
theorem dX11_order_31 : decode cX11_order 31 = .ok (.getfield 321, 3) := o180 ac_cX11_order_16 15 1 65 rfl
def kb_cX11_order_32 : List Nat := [1, 65, 162, 0, 46, 42, 180, 0, 54, 21, 4, 182, 0, 134, 153, 0, 28, 42, 180, 0]
theorem ac_cX11_order_32 : AL cX11_order 32 kb_cX11_order_32 := AL.of (m := 20) (by decide +kernel)
theorem dX11_order_34 : decode cX11_order 34 = .ok (.if_icmp .ge 46, 3) := o162p ac_cX11_order_32 2 0 46 rfl rfl
def kb_cX11_order_80 : List Nat := [132, 3, 1, 167, 255, 189, 2, 172]
theorem ac_cX11_order_80 : AL cX11_order 80 kb_cX11_order_80 := AL.of (m := 8) (by decide +kernel)
theorem dX11_order_80 : decode cX11_order 80 = .ok (.iinc 3 1, 3) := o132p ac_cX11_order_80 0 3 1 rfl rfl
theorem dX11_order_83 : decode cX11_order 83 = .ok (.goto (-67), 3) := o167n ac_cX11_order_80 3 255 189 66 rfl rfl rfl
theorem dX11_order_86 : decode cX11_order 86 = .ok (.iconst (-1), 1) := o2 ac_cX11_order_80 6 rfl
theorem dX11_order_87 : decode cX11_order 87 = .ok (.ireturn, 1) := o172 ac_cX11_order_80 7 rfl
def kb_cX2_agreeing_0 : List Nat := [27, 54, 4, 3, 54, 5, 21, 5, 28, 162, 0, 85, 21, 5, 42, 180, 0, 19, 162, 0]
theorem ac_cX2_agreeing_0 : AL cX2_agreeing 0 kb_cX2_agreeing_0 := AL.of (m := 20) (by decide +kernel)
theorem dX2_agreeing_0 : decode cX2_agreeing 0 = .ok (.iload_n 1, 1) := o27 ac_cX2_agreeing_0 0 rfl
theorem dX2_agreeing_1 : decode cX2_agreeing 1 = .ok (.istore 4, 2) := o54 ac_cX2_agreeing_0 1 4 rfl
theorem dX2_agreeing_3 : decode cX2_agreeing 3 = .ok (.iconst 0, 1) := o3 ac_cX2_agreeing_0 3 rfl
theorem dX2_agreeing_4 : decode cX2_agreeing 4 = .ok (.istore 5, 2) := o54 ac_cX2_agreeing_0 4 5 rfl
theorem dX2_agreeing_6 : decode cX2_agreeing 6 = .ok (.iload 5, 2) := o21 ac_cX2_agreeing_0 6 5 rfl
theorem dX2_agreeing_8 : decode cX2_agreeing 8 = .ok (.iload_n 2, 1) := o28 ac_cX2_agreeing_0 8 rfl
theorem dX2_agreeing_9 : decode cX2_agreeing 9 = .ok (.if_icmp .ge 85, 3) := o162p ac_cX2_agreeing_0 9 0 85 rfl rfl
def kb_cX2_agreeing_80 : List Nat := [7, 21, 7, 2, 130, 126, 54, 4, 132, 5, 1, 167, 255, 171, 21, 4, 172]
theorem ac_cX2_agreeing_80 : AL cX2_agreeing 80 kb_cX2_agreeing_80 := AL.of (m := 17) (by decide +kernel)
theorem dX2_agreeing_94 : decode cX2_agreeing 94 = .ok (.iload 4, 2) := o21 ac_cX2_agreeing_80 14 4 rfl
def kb_cX2_agreeing_96 : List Nat := [172]
theorem ac_cX2_agreeing_96 : AL cX2_agreeing 96 kb_cX2_agreeing_96 := AL.of (m := 1) (by decide +kernel)
theorem dX2_agreeing_96 : decode cX2_agreeing 96 = .ok (.ireturn, 1) := o172 ac_cX2_agreeing_96 0 rfl
def kb_cX11_watch_0 : List Nat := [27, 155, 0, 14, 27, 42, 180, 0, 33, 180, 0, 117, 164, 0, 5, 2, 172, 42, 16, 41]
theorem ac_cX11_watch_0 : AL cX11_watch 0 kb_cX11_watch_0 := AL.of (m := 20) (by decide +kernel)
theorem dX11_watch_0 : decode cX11_watch 0 = .ok (.iload_n 1, 1) := o27 ac_cX11_watch_0 0 rfl
theorem dX11_watch_1 : decode cX11_watch 1 = .ok (.ifCond .lt 14, 3) := o155p ac_cX11_watch_0 1 0 14 rfl rfl
theorem dX11_watch_4 : decode cX11_watch 4 = .ok (.iload_n 1, 1) := o27 ac_cX11_watch_0 4 rfl
theorem dX11_watch_5 : decode cX11_watch 5 = .ok (.aload_n 0, 1) := o42 ac_cX11_watch_0 5 rfl
theorem dX11_watch_6 : decode cX11_watch 6 = .ok (.getfield 33, 3) := o180 ac_cX11_watch_0 6 0 33 rfl
theorem dX11_watch_9 : decode cX11_watch 9 = .ok (.getfield 117, 3) := o180 ac_cX11_watch_0 9 0 117 rfl
theorem dX11_watch_12 : decode cX11_watch 12 = .ok (.if_icmp .le 5, 3) := o164p ac_cX11_watch_0 12 0 5 rfl rfl
def kb_cX11_watch_16 : List Nat := [172, 42, 16, 41, 182, 1, 23, 42, 180, 0, 33, 42, 180, 0, 54, 3, 182, 0, 180, 27]
theorem ac_cX11_watch_16 : AL cX11_watch 16 kb_cX11_watch_16 := AL.of (m := 20) (by decide +kernel)
theorem dX11_watch_17 : decode cX11_watch 17 = .ok (.aload_n 0, 1) := o42 ac_cX11_watch_16 1 rfl
theorem dX11_watch_18 : decode cX11_watch 18 = .ok (.bipush 41, 2) := o16p ac_cX11_watch_16 2 41 rfl rfl
theorem dX11_watch_20 : decode cX11_watch 20 = .ok (.invokevirtual 279, 3) := o182 ac_cX11_watch_16 4 1 23 rfl
theorem dX11_watch_23 : decode cX11_watch 23 = .ok (.aload_n 0, 1) := o42 ac_cX11_watch_16 7 rfl
theorem dX11_watch_24 : decode cX11_watch 24 = .ok (.getfield 33, 3) := o180 ac_cX11_watch_16 8 0 33 rfl
theorem dX11_watch_27 : decode cX11_watch 27 = .ok (.aload_n 0, 1) := o42 ac_cX11_watch_16 11 rfl
theorem dX11_watch_28 : decode cX11_watch 28 = .ok (.getfield 54, 3) := o180 ac_cX11_watch_16 12 0 54 rfl
theorem dX11_watch_31 : decode cX11_watch 31 = .ok (.iconst 0, 1) := o3 ac_cX11_watch_16 15 rfl
def kb_cX11_watch_32 : List Nat := [182, 0, 180, 27, 42, 180, 0, 69, 182, 1, 70, 61, 28, 154, 0, 6, 16, 254, 172, 3]
theorem ac_cX11_watch_32 : AL cX11_watch 32 kb_cX11_watch_32 := AL.of (m := 20) (by decide +kernel)
theorem dX11_watch_32 : decode cX11_watch 32 = .ok (.invokevirtual 180, 3) := o182 ac_cX11_watch_32 0 0 180 rfl
theorem dX11_watch_35 : decode cX11_watch 35 = .ok (.iload_n 1, 1) := o27 ac_cX11_watch_32 3 rfl
theorem dX11_watch_36 : decode cX11_watch 36 = .ok (.aload_n 0, 1) := o42 ac_cX11_watch_32 4 rfl
theorem dX11_watch_37 : decode cX11_watch 37 = .ok (.getfield 69, 3) := o180 ac_cX11_watch_32 5 0 69 rfl
theorem dX11_watch_40 : decode cX11_watch 40 = .ok (.invokevirtual 326, 3) := o182 ac_cX11_watch_32 8 1 70 rfl
theorem dX11_watch_43 : decode cX11_watch 43 = .ok (.istore_n 2, 1) := o61 ac_cX11_watch_32 11 rfl
theorem dX11_watch_44 : decode cX11_watch 44 = .ok (.iload_n 2, 1) := o28 ac_cX11_watch_32 12 rfl
theorem dX11_watch_45 : decode cX11_watch 45 = .ok (.ifCond .ne 6, 3) := o154p ac_cX11_watch_32 13 0 6 rfl rfl
def kb_cX11_watch_48 : List Nat := [16, 254, 172, 3, 62, 16, 8, 54, 4, 3, 54, 5, 21, 5, 16, 40, 163, 0, 70, 42]
theorem ac_cX11_watch_48 : AL cX11_watch 48 kb_cX11_watch_48 := AL.of (m := 20) (by decide +kernel)
theorem dX11_watch_48 : decode cX11_watch 48 = .ok (.bipush (-2), 2) := o16n ac_cX11_watch_48 0 254 1 rfl rfl rfl
theorem dX11_watch_50 : decode cX11_watch 50 = .ok (.ireturn, 1) := o172 ac_cX11_watch_48 2 rfl
theorem dX11_watch_15 : decode cX11_watch 15 = .ok (.iconst (-1), 1) := o2 ac_cX11_watch_0 15 rfl
theorem dX11_watch_16 : decode cX11_watch 16 = .ok (.ireturn, 1) := o172 ac_cX11_watch_16 0 rfl
def kb_cX11_glitters_0 : List Nat := [27, 155, 0, 23, 27, 42, 180, 0, 33, 180, 0, 117, 163, 0, 12, 28, 155, 0, 8, 28]
theorem ac_cX11_glitters_0 : AL cX11_glitters 0 kb_cX11_glitters_0 := AL.of (m := 20) (by decide +kernel)
theorem dX11_glitters_0 : decode cX11_glitters 0 = .ok (.iload_n 1, 1) := o27 ac_cX11_glitters_0 0 rfl
theorem dX11_glitters_1 : decode cX11_glitters 1 = .ok (.ifCond .lt 23, 3) := o155p ac_cX11_glitters_0 1 0 23 rfl rfl
theorem dX11_glitters_4 : decode cX11_glitters 4 = .ok (.iload_n 1, 1) := o27 ac_cX11_glitters_0 4 rfl
theorem dX11_glitters_5 : decode cX11_glitters 5 = .ok (.aload_n 0, 1) := o42 ac_cX11_glitters_0 5 rfl
theorem dX11_glitters_6 : decode cX11_glitters 6 = .ok (.getfield 33, 3) := o180 ac_cX11_glitters_0 6 0 33 rfl
theorem dX11_glitters_9 : decode cX11_glitters 9 = .ok (.getfield 117, 3) := o180 ac_cX11_glitters_0 9 0 117 rfl
theorem dX11_glitters_12 : decode cX11_glitters 12 = .ok (.if_icmp .gt 12, 3) := o163p ac_cX11_glitters_0 12 0 12 rfl rfl
theorem dX11_glitters_15 : decode cX11_glitters 15 = .ok (.iload_n 2, 1) := o28 ac_cX11_glitters_0 15 rfl
def kb_cX11_glitters_16 : List Nat := [155, 0, 8, 28, 4, 164, 0, 5, 2, 172, 42, 16, 41, 182, 1, 23, 42, 180, 0, 33]
theorem ac_cX11_glitters_16 : AL cX11_glitters 16 kb_cX11_glitters_16 := AL.of (m := 20) (by decide +kernel)
theorem dX11_glitters_16 : decode cX11_glitters 16 = .ok (.ifCond .lt 8, 3) := o155p ac_cX11_glitters_16 0 0 8 rfl rfl
theorem dX11_glitters_19 : decode cX11_glitters 19 = .ok (.iload_n 2, 1) := o28 ac_cX11_glitters_16 3 rfl
theorem dX11_glitters_20 : decode cX11_glitters 20 = .ok (.iconst 1, 1) := o4 ac_cX11_glitters_16 4 rfl
theorem dX11_glitters_21 : decode cX11_glitters 21 = .ok (.if_icmp .le 5, 3) := o164p ac_cX11_glitters_16 5 0 5 rfl rfl
theorem dX11_glitters_26 : decode cX11_glitters 26 = .ok (.aload_n 0, 1) := o42 ac_cX11_glitters_16 10 rfl
theorem dX11_glitters_27 : decode cX11_glitters 27 = .ok (.bipush 41, 2) := o16p ac_cX11_glitters_16 11 41 rfl rfl
theorem dX11_glitters_29 : decode cX11_glitters 29 = .ok (.invokevirtual 279, 3) := o182 ac_cX11_glitters_16 13 1 23 rfl
def kb_cX11_glitters_32 : List Nat := [42, 180, 0, 33, 42, 180, 0, 54, 3, 182, 0, 180, 27, 42, 180, 0, 69, 182, 1, 70]
theorem ac_cX11_glitters_32 : AL cX11_glitters 32 kb_cX11_glitters_32 := AL.of (m := 20) (by decide +kernel)
theorem dX11_glitters_32 : decode cX11_glitters 32 = .ok (.aload_n 0, 1) := o42 ac_cX11_glitters_32 0 rfl
theorem dX11_glitters_33 : decode cX11_glitters 33 = .ok (.getfield 33, 3) := o180 ac_cX11_glitters_32 1 0 33 rfl
theorem dX11_glitters_36 : decode cX11_glitters 36 = .ok (.aload_n 0, 1) := o42 ac_cX11_glitters_32 4 rfl
theorem dX11_glitters_37 : decode cX11_glitters 37 = .ok (.getfield 54, 3) := o180 ac_cX11_glitters_32 5 0 54 rfl
theorem dX11_glitters_40 : decode cX11_glitters 40 = .ok (.iconst 0, 1) := o3 ac_cX11_glitters_32 8 rfl
theorem dX11_glitters_41 : decode cX11_glitters 41 = .ok (.invokevirtual 180, 3) := o182 ac_cX11_glitters_32 9 0 180 rfl
theorem dX11_glitters_44 : decode cX11_glitters 44 = .ok (.iload_n 1, 1) := o27 ac_cX11_glitters_32 12 rfl
theorem dX11_glitters_45 : decode cX11_glitters 45 = .ok (.aload_n 0, 1) := o42 ac_cX11_glitters_32 13 rfl
theorem dX11_glitters_46 : decode cX11_glitters 46 = .ok (.getfield 69, 3) := o180 ac_cX11_glitters_32 14 0 69 rfl
def kb_cX11_glitters_48 : List Nat := [69, 182, 1, 70, 62, 28, 154, 0, 10, 29, 184, 1, 74, 167, 0, 4, 29, 172]
theorem ac_cX11_glitters_48 : AL cX11_glitters 48 kb_cX11_glitters_48 := AL.of (m := 18) (by decide +kernel)
theorem dX11_glitters_49 : decode cX11_glitters 49 = .ok (.invokevirtual 326, 3) := o182 ac_cX11_glitters_48 1 1 70 rfl
theorem dX11_glitters_52 : decode cX11_glitters 52 = .ok (.istore_n 3, 1) := o62 ac_cX11_glitters_48 4 rfl
theorem dX11_glitters_53 : decode cX11_glitters 53 = .ok (.iload_n 2, 1) := o28 ac_cX11_glitters_48 5 rfl
theorem dX11_glitters_54 : decode cX11_glitters 54 = .ok (.ifCond .ne 10, 3) := o154p ac_cX11_glitters_48 6 0 10 rfl rfl
theorem dX11_glitters_57 : decode cX11_glitters 57 = .ok (.iload_n 3, 1) := o29 ac_cX11_glitters_48 9 rfl
theorem dX11_glitters_58 : decode cX11_glitters 58 = .ok (.invokestatic 330, 3) := o184 ac_cX11_glitters_48 10 1 74 rfl
theorem dX11_glitters_61 : decode cX11_glitters 61 = .ok (.goto 4, 3) := o167p ac_cX11_glitters_48 13 0 4 rfl rfl
def kb_cX11_glitters_64 : List Nat := [29, 172]
theorem ac_cX11_glitters_64 : AL cX11_glitters 64 kb_cX11_glitters_64 := AL.of (m := 2) (by decide +kernel)
theorem dX11_glitters_64 : decode cX11_glitters 64 = .ok (.iload_n 3, 1) := o29 ac_cX11_glitters_64 0 rfl
theorem dX11_glitters_65 : decode cX11_glitters 65 = .ok (.ireturn, 1) := o172 ac_cX11_glitters_64 1 rfl
theorem dX11_glitters_24 : decode cX11_glitters 24 = .ok (.iconst (-1), 1) := o2 ac_cX11_glitters_16 8 rfl
theorem dX11_glitters_25 : decode cX11_glitters 25 = .ok (.ireturn, 1) := o172 ac_cX11_glitters_16 9 rfl
def kb_cX11_then_0 : List Nat := [27, 155, 0, 18, 27, 16, 60, 163, 0, 12, 28, 155, 0, 8, 28, 6, 164, 0, 5, 2]
theorem ac_cX11_then_0 : AL cX11_then 0 kb_cX11_then_0 := AL.of (m := 20) (by decide +kernel)
theorem dX11_then_0 : decode cX11_then 0 = .ok (.iload_n 1, 1) := o27 ac_cX11_then_0 0 rfl
theorem dX11_then_1 : decode cX11_then 1 = .ok (.ifCond .lt 18, 3) := o155p ac_cX11_then_0 1 0 18 rfl rfl
theorem dX11_then_4 : decode cX11_then 4 = .ok (.iload_n 1, 1) := o27 ac_cX11_then_0 4 rfl
theorem dX11_then_5 : decode cX11_then 5 = .ok (.bipush 60, 2) := o16p ac_cX11_then_0 5 60 rfl rfl
theorem dX11_then_7 : decode cX11_then 7 = .ok (.if_icmp .gt 12, 3) := o163p ac_cX11_then_0 7 0 12 rfl rfl
theorem dX11_then_10 : decode cX11_then 10 = .ok (.iload_n 2, 1) := o28 ac_cX11_then_0 10 rfl
theorem dX11_then_11 : decode cX11_then 11 = .ok (.ifCond .lt 8, 3) := o155p ac_cX11_then_0 11 0 8 rfl rfl
theorem dX11_then_14 : decode cX11_then 14 = .ok (.iload_n 2, 1) := o28 ac_cX11_then_0 14 rfl
theorem dX11_then_15 : decode cX11_then 15 = .ok (.iconst 3, 1) := o6 ac_cX11_then_0 15 rfl
def kb_cX11_then_16 : List Nat := [164, 0, 5, 2, 172, 42, 180, 0, 58, 42, 180, 0, 54, 182, 0, 230, 42, 180, 0, 19]
theorem ac_cX11_then_16 : AL cX11_then 16 kb_cX11_then_16 := AL.of (m := 20) (by decide +kernel)
theorem dX11_then_16 : decode cX11_then 16 = .ok (.if_icmp .le 5, 3) := o164p ac_cX11_then_16 0 0 5 rfl rfl
theorem dX11_then_21 : decode cX11_then 21 = .ok (.aload_n 0, 1) := o42 ac_cX11_then_16 5 rfl
theorem dX11_then_22 : decode cX11_then 22 = .ok (.getfield 58, 3) := o180 ac_cX11_then_16 6 0 58 rfl
theorem dX11_then_25 : decode cX11_then 25 = .ok (.aload_n 0, 1) := o42 ac_cX11_then_16 9 rfl
theorem dX11_then_26 : decode cX11_then 26 = .ok (.getfield 54, 3) := o180 ac_cX11_then_16 10 0 54 rfl
theorem dX11_then_29 : decode cX11_then 29 = .ok (.invokevirtual 230, 3) := o182 ac_cX11_then_16 13 0 230 rfl
def kb_cX11_then_32 : List Nat := [42, 180, 0, 19, 42, 180, 0, 82, 42, 180, 0, 58, 27, 42, 180, 0, 82, 180, 0, 220]
theorem ac_cX11_then_32 : AL cX11_then 32 kb_cX11_then_32 := AL.of (m := 20) (by decide +kernel)
theorem dX11_then_32 : decode cX11_then 32 = .ok (.aload_n 0, 1) := o42 ac_cX11_then_32 0 rfl
theorem dX11_then_33 : decode cX11_then 33 = .ok (.getfield 19, 3) := o180 ac_cX11_then_32 1 0 19 rfl
theorem dX11_then_36 : decode cX11_then 36 = .ok (.aload_n 0, 1) := o42 ac_cX11_then_32 4 rfl
theorem dX11_then_37 : decode cX11_then 37 = .ok (.getfield 82, 3) := o180 ac_cX11_then_32 5 0 82 rfl
theorem dX11_then_40 : decode cX11_then 40 = .ok (.aload_n 0, 1) := o42 ac_cX11_then_32 8 rfl
theorem dX11_then_41 : decode cX11_then 41 = .ok (.getfield 58, 3) := o180 ac_cX11_then_32 9 0 58 rfl
theorem dX11_then_44 : decode cX11_then 44 = .ok (.iload_n 1, 1) := o27 ac_cX11_then_32 12 rfl
theorem dX11_then_45 : decode cX11_then 45 = .ok (.aload_n 0, 1) := o42 ac_cX11_then_32 13 rfl
theorem dX11_then_46 : decode cX11_then 46 = .ok (.getfield 82, 3) := o180 ac_cX11_then_32 14 0 82 rfl
def kb_cX11_then_48 : List Nat := [82, 180, 0, 220, 182, 0, 223, 28, 170, 0, 0, 0, 0, 0, 0, 60, 0, 0, 0, 0]
theorem ac_cX11_then_48 : AL cX11_then 48 kb_cX11_then_48 := AL.of (m := 20) (by decide +kernel)
theorem dX11_then_49 : decode cX11_then 49 = .ok (.getfield 220, 3) := o180 ac_cX11_then_48 1 0 220 rfl
theorem dX11_then_52 : decode cX11_then 52 = .ok (.invokevirtual 223, 3) := o182 ac_cX11_then_48 4 0 223 rfl
theorem dX11_then_55 : decode cX11_then 55 = .ok (.iload_n 2, 1) := o28 ac_cX11_then_48 7 rfl
theorem dX11_then_56 : decode cX11_then 56 = .ok (.tableswitch 60 0 2 #[28, 36, 44], 28) := by decide +kernel
def kb_cX11_then_80 : List Nat := [0, 0, 0, 44, 42, 180, 0, 58, 180, 0, 177, 172, 42, 180, 0, 58, 182, 0, 156, 172]
theorem ac_cX11_then_80 : AL cX11_then 80 kb_cX11_then_80 := AL.of (m := 20) (by decide +kernel)
theorem dX11_then_84 : decode cX11_then 84 = .ok (.aload_n 0, 1) := o42 ac_cX11_then_80 4 rfl
theorem dX11_then_85 : decode cX11_then 85 = .ok (.getfield 58, 3) := o180 ac_cX11_then_80 5 0 58 rfl
theorem dX11_then_88 : decode cX11_then 88 = .ok (.getfield 177, 3) := o180 ac_cX11_then_80 8 0 177 rfl
theorem dX11_then_91 : decode cX11_then 91 = .ok (.ireturn, 1) := o172 ac_cX11_then_80 11 rfl
theorem dX11_then_92 : decode cX11_then 92 = .ok (.aload_n 0, 1) := o42 ac_cX11_then_80 12 rfl
theorem dX11_then_93 : decode cX11_then 93 = .ok (.getfield 58, 3) := o180 ac_cX11_then_80 13 0 58 rfl
def kb_cX11_then_96 : List Nat := [182, 0, 156, 172, 42, 180, 0, 58, 180, 0, 184, 42, 180, 0, 54, 180, 0, 184, 100, 172]
theorem ac_cX11_then_96 : AL cX11_then 96 kb_cX11_then_96 := AL.of (m := 20) (by decide +kernel)
theorem dX11_then_96 : decode cX11_then 96 = .ok (.invokevirtual 156, 3) := o182 ac_cX11_then_96 0 0 156 rfl
theorem dX11_then_99 : decode cX11_then 99 = .ok (.ireturn, 1) := o172 ac_cX11_then_96 3 rfl
theorem dX11_then_100 : decode cX11_then 100 = .ok (.aload_n 0, 1) := o42 ac_cX11_then_96 4 rfl
theorem dX11_then_101 : decode cX11_then 101 = .ok (.getfield 58, 3) := o180 ac_cX11_then_96 5 0 58 rfl
theorem dX11_then_104 : decode cX11_then 104 = .ok (.getfield 184, 3) := o180 ac_cX11_then_96 8 0 184 rfl
theorem dX11_then_107 : decode cX11_then 107 = .ok (.aload_n 0, 1) := o42 ac_cX11_then_96 11 rfl
theorem dX11_then_108 : decode cX11_then 108 = .ok (.getfield 54, 3) := o180 ac_cX11_then_96 12 0 54 rfl
theorem dX11_then_111 : decode cX11_then 111 = .ok (.getfield 184, 3) := o180 ac_cX11_then_96 15 0 184 rfl
def kb_cX11_then_112 : List Nat := [0, 184, 100, 172, 42, 180, 0, 58, 180, 0, 190, 42, 180, 0, 54, 180, 0, 190, 100, 172]
theorem ac_cX11_then_112 : AL cX11_then 112 kb_cX11_then_112 := AL.of (m := 20) (by decide +kernel)
theorem dX11_then_114 : decode cX11_then 114 = .ok (.isub, 1) := o100 ac_cX11_then_112 2 rfl
theorem dX11_then_115 : decode cX11_then 115 = .ok (.ireturn, 1) := o172 ac_cX11_then_112 3 rfl
theorem dX11_then_116 : decode cX11_then 116 = .ok (.aload_n 0, 1) := o42 ac_cX11_then_112 4 rfl
theorem dX11_then_117 : decode cX11_then 117 = .ok (.getfield 58, 3) := o180 ac_cX11_then_112 5 0 58 rfl
theorem dX11_then_120 : decode cX11_then 120 = .ok (.getfield 190, 3) := o180 ac_cX11_then_112 8 0 190 rfl
theorem dX11_then_123 : decode cX11_then 123 = .ok (.aload_n 0, 1) := o42 ac_cX11_then_112 11 rfl
theorem dX11_then_124 : decode cX11_then 124 = .ok (.getfield 54, 3) := o180 ac_cX11_then_112 12 0 54 rfl
theorem dX11_then_127 : decode cX11_then 127 = .ok (.getfield 190, 3) := o180 ac_cX11_then_112 15 0 190 rfl
def kb_cX11_then_128 : List Nat := [0, 190, 100, 172]
theorem ac_cX11_then_128 : AL cX11_then 128 kb_cX11_then_128 := AL.of (m := 4) (by decide +kernel)
theorem dX11_then_130 : decode cX11_then 130 = .ok (.isub, 1) := o100 ac_cX11_then_128 2 rfl
theorem dX11_then_131 : decode cX11_then 131 = .ok (.ireturn, 1) := o172 ac_cX11_then_128 3 rfl
theorem dX11_then_19 : decode cX11_then 19 = .ok (.iconst (-1), 1) := o2 ac_cX11_then_16 3 rfl
theorem dX11_then_20 : decode cX11_then 20 = .ok (.ireturn, 1) := o172 ac_cX11_then_16 4 rfl
def kb_cX11_year_0 : List Nat := [27, 155, 0, 20, 27, 16, 60, 163, 0, 14, 28, 4, 161, 0, 9, 28, 16, 20, 164, 0]
theorem ac_cX11_year_0 : AL cX11_year 0 kb_cX11_year_0 := AL.of (m := 20) (by decide +kernel)
theorem dX11_year_0 : decode cX11_year 0 = .ok (.iload_n 1, 1) := o27 ac_cX11_year_0 0 rfl
theorem dX11_year_1 : decode cX11_year 1 = .ok (.ifCond .lt 20, 3) := o155p ac_cX11_year_0 1 0 20 rfl rfl
theorem dX11_year_4 : decode cX11_year 4 = .ok (.iload_n 1, 1) := o27 ac_cX11_year_0 4 rfl
theorem dX11_year_5 : decode cX11_year 5 = .ok (.bipush 60, 2) := o16p ac_cX11_year_0 5 60 rfl rfl
theorem dX11_year_7 : decode cX11_year 7 = .ok (.if_icmp .gt 14, 3) := o163p ac_cX11_year_0 7 0 14 rfl rfl
theorem dX11_year_10 : decode cX11_year 10 = .ok (.iload_n 2, 1) := o28 ac_cX11_year_0 10 rfl
theorem dX11_year_11 : decode cX11_year 11 = .ok (.iconst 1, 1) := o4 ac_cX11_year_0 11 rfl
theorem dX11_year_12 : decode cX11_year 12 = .ok (.if_icmp .lt 9, 3) := o161p ac_cX11_year_0 12 0 9 rfl rfl
theorem dX11_year_15 : decode cX11_year 15 = .ok (.iload_n 2, 1) := o28 ac_cX11_year_0 15 rfl
def kb_cX11_year_16 : List Nat := [16, 20, 164, 0, 5, 2, 172, 3, 62, 3, 54, 4, 21, 4, 28, 162, 0, 66, 42, 180]
theorem ac_cX11_year_16 : AL cX11_year 16 kb_cX11_year_16 := AL.of (m := 20) (by decide +kernel)
theorem dX11_year_16 : decode cX11_year 16 = .ok (.bipush 20, 2) := o16p ac_cX11_year_16 0 20 rfl rfl
theorem dX11_year_18 : decode cX11_year 18 = .ok (.if_icmp .le 5, 3) := o164p ac_cX11_year_16 2 0 5 rfl rfl
theorem dX11_year_23 : decode cX11_year 23 = .ok (.iconst 0, 1) := o3 ac_cX11_year_16 7 rfl
theorem dX11_year_24 : decode cX11_year 24 = .ok (.istore_n 3, 1) := o62 ac_cX11_year_16 8 rfl
theorem dX11_year_25 : decode cX11_year 25 = .ok (.iconst 0, 1) := o3 ac_cX11_year_16 9 rfl
theorem dX11_year_26 : decode cX11_year 26 = .ok (.istore 4, 2) := o54 ac_cX11_year_16 10 4 rfl
theorem dX11_year_28 : decode cX11_year 28 = .ok (.iload 4, 2) := o21 ac_cX11_year_16 12 4 rfl
theorem dX11_year_30 : decode cX11_year 30 = .ok (.iload_n 2, 1) := o28 ac_cX11_year_16 14 rfl
theorem dX11_year_31 : decode cX11_year 31 = .ok (.if_icmp .ge 66, 3) := o162p ac_cX11_year_16 15 0 66 rfl rfl
def kb_cX11_year_32 : List Nat := [0, 66, 42, 180, 0, 58, 42, 180, 0, 54, 182, 0, 230, 42, 180, 0, 19, 42, 180, 0]
theorem ac_cX11_year_32 : AL cX11_year 32 kb_cX11_year_32 := AL.of (m := 20) (by decide +kernel)
theorem dX11_year_34 : decode cX11_year 34 = .ok (.aload_n 0, 1) := o42 ac_cX11_year_32 2 rfl
theorem dX11_year_35 : decode cX11_year 35 = .ok (.getfield 58, 3) := o180 ac_cX11_year_32 3 0 58 rfl
theorem dX11_year_38 : decode cX11_year 38 = .ok (.aload_n 0, 1) := o42 ac_cX11_year_32 6 rfl
theorem dX11_year_39 : decode cX11_year 39 = .ok (.getfield 54, 3) := o180 ac_cX11_year_32 7 0 54 rfl
theorem dX11_year_42 : decode cX11_year 42 = .ok (.invokevirtual 230, 3) := o182 ac_cX11_year_32 10 0 230 rfl
theorem dX11_year_45 : decode cX11_year 45 = .ok (.aload_n 0, 1) := o42 ac_cX11_year_32 13 rfl
theorem dX11_year_46 : decode cX11_year 46 = .ok (.getfield 19, 3) := o180 ac_cX11_year_32 14 0 19 rfl
def kb_cX11_year_48 : List Nat := [19, 42, 180, 0, 82, 42, 180, 0, 58, 27, 42, 180, 0, 82, 180, 0, 220, 21, 4, 96]
theorem ac_cX11_year_48 : AL cX11_year 48 kb_cX11_year_48 := AL.of (m := 20) (by decide +kernel)
theorem dX11_year_49 : decode cX11_year 49 = .ok (.aload_n 0, 1) := o42 ac_cX11_year_48 1 rfl
theorem dX11_year_50 : decode cX11_year 50 = .ok (.getfield 82, 3) := o180 ac_cX11_year_48 2 0 82 rfl
theorem dX11_year_53 : decode cX11_year 53 = .ok (.aload_n 0, 1) := o42 ac_cX11_year_48 5 rfl
theorem dX11_year_54 : decode cX11_year 54 = .ok (.getfield 58, 3) := o180 ac_cX11_year_48 6 0 58 rfl
theorem dX11_year_57 : decode cX11_year 57 = .ok (.iload_n 1, 1) := o27 ac_cX11_year_48 9 rfl
theorem dX11_year_58 : decode cX11_year 58 = .ok (.aload_n 0, 1) := o42 ac_cX11_year_48 10 rfl
theorem dX11_year_59 : decode cX11_year 59 = .ok (.getfield 82, 3) := o180 ac_cX11_year_48 11 0 82 rfl
theorem dX11_year_62 : decode cX11_year 62 = .ok (.getfield 220, 3) := o180 ac_cX11_year_48 14 0 220 rfl
def kb_cX11_year_64 : List Nat := [220, 21, 4, 96, 182, 0, 223, 42, 180, 0, 58, 180, 0, 184, 42, 180, 0, 54, 180, 0]
theorem ac_cX11_year_64 : AL cX11_year 64 kb_cX11_year_64 := AL.of (m := 20) (by decide +kernel)
theorem dX11_year_65 : decode cX11_year 65 = .ok (.iload 4, 2) := o21 ac_cX11_year_64 1 4 rfl
theorem dX11_year_67 : decode cX11_year 67 = .ok (.iadd, 1) := o96 ac_cX11_year_64 3 rfl
theorem dX11_year_68 : decode cX11_year 68 = .ok (.invokevirtual 223, 3) := o182 ac_cX11_year_64 4 0 223 rfl
theorem dX11_year_71 : decode cX11_year 71 = .ok (.aload_n 0, 1) := o42 ac_cX11_year_64 7 rfl
theorem dX11_year_72 : decode cX11_year 72 = .ok (.getfield 58, 3) := o180 ac_cX11_year_64 8 0 58 rfl
theorem dX11_year_75 : decode cX11_year 75 = .ok (.getfield 184, 3) := o180 ac_cX11_year_64 11 0 184 rfl
theorem dX11_year_78 : decode cX11_year 78 = .ok (.aload_n 0, 1) := o42 ac_cX11_year_64 14 rfl
theorem dX11_year_79 : decode cX11_year 79 = .ok (.getfield 54, 3) := o180 ac_cX11_year_64 15 0 54 rfl
def kb_cX11_year_80 : List Nat := [0, 54, 180, 0, 184, 160, 0, 6, 132, 3, 1, 132, 4, 1, 167, 255, 190, 29, 172]
theorem ac_cX11_year_80 : AL cX11_year 80 kb_cX11_year_80 := AL.of (m := 19) (by decide +kernel)
theorem dX11_year_82 : decode cX11_year 82 = .ok (.getfield 184, 3) := o180 ac_cX11_year_80 2 0 184 rfl
theorem dX11_year_85 : decode cX11_year 85 = .ok (.if_icmp .ne 6, 3) := o160p ac_cX11_year_80 5 0 6 rfl rfl
theorem dX11_year_88 : decode cX11_year 88 = .ok (.iinc 3 1, 3) := o132p ac_cX11_year_80 8 3 1 rfl rfl
theorem dX11_year_91 : decode cX11_year 91 = .ok (.iinc 4 1, 3) := o132p ac_cX11_year_80 11 4 1 rfl rfl
theorem dX11_year_94 : decode cX11_year 94 = .ok (.goto (-66), 3) := o167n ac_cX11_year_80 14 255 190 65 rfl rfl rfl
def kb_cX11_year_96 : List Nat := [190, 29, 172]
theorem ac_cX11_year_96 : AL cX11_year 96 kb_cX11_year_96 := AL.of (m := 3) (by decide +kernel)
theorem dX11_year_97 : decode cX11_year 97 = .ok (.iload_n 3, 1) := o29 ac_cX11_year_96 1 rfl
theorem dX11_year_98 : decode cX11_year 98 = .ok (.ireturn, 1) := o172 ac_cX11_year_96 2 rfl
theorem dX11_year_21 : decode cX11_year 21 = .ok (.iconst (-1), 1) := o2 ac_cX11_year_16 5 rfl
theorem dX11_year_22 : decode cX11_year 22 = .ok (.ireturn, 1) := o172 ac_cX11_year_16 6 rfl
def kb_cX10_emit_0 : List Nat := [42, 180, 0, 51, 42, 180, 0, 29, 190, 162, 0, 23, 42, 180, 0, 29, 42, 180, 0, 51]
theorem ac_cX10_emit_0 : AL cX10_emit 0 kb_cX10_emit_0 := AL.of (m := 20) (by decide +kernel)
theorem dX10_emit_0 : decode cX10_emit 0 = .ok (.aload_n 0, 1) := o42 ac_cX10_emit_0 0 rfl
theorem dX10_emit_1 : decode cX10_emit 1 = .ok (.getfield 51, 3) := o180 ac_cX10_emit_0 1 0 51 rfl
theorem dX10_emit_4 : decode cX10_emit 4 = .ok (.aload_n 0, 1) := o42 ac_cX10_emit_0 4 rfl
theorem dX10_emit_5 : decode cX10_emit 5 = .ok (.getfield 29, 3) := o180 ac_cX10_emit_0 5 0 29 rfl
theorem dX10_emit_8 : decode cX10_emit 8 = .ok (.arraylength, 1) := o190 ac_cX10_emit_0 8 rfl
theorem dX10_emit_9 : decode cX10_emit 9 = .ok (.if_icmp .ge 23, 3) := o162p ac_cX10_emit_0 9 0 23 rfl rfl
theorem dX10_emit_12 : decode cX10_emit 12 = .ok (.aload_n 0, 1) := o42 ac_cX10_emit_0 12 rfl
theorem dX10_emit_13 : decode cX10_emit 13 = .ok (.getfield 29, 3) := o180 ac_cX10_emit_0 13 0 29 rfl
def kb_cX10_emit_16 : List Nat := [42, 180, 0, 51, 27, 79, 42, 89, 180, 0, 51, 4, 96, 181, 0, 51, 177]
theorem ac_cX10_emit_16 : AL cX10_emit 16 kb_cX10_emit_16 := AL.of (m := 17) (by decide +kernel)
theorem dX10_emit_16 : decode cX10_emit 16 = .ok (.aload_n 0, 1) := o42 ac_cX10_emit_16 0 rfl
theorem dX10_emit_17 : decode cX10_emit 17 = .ok (.getfield 51, 3) := o180 ac_cX10_emit_16 1 0 51 rfl
theorem dX10_emit_20 : decode cX10_emit 20 = .ok (.iload_n 1, 1) := o27 ac_cX10_emit_16 4 rfl
theorem dX10_emit_21 : decode cX10_emit 21 = .ok (.iastore, 1) := o79 ac_cX10_emit_16 5 rfl
theorem dX10_emit_22 : decode cX10_emit 22 = .ok (.aload_n 0, 1) := o42 ac_cX10_emit_16 6 rfl
theorem dX10_emit_23 : decode cX10_emit 23 = .ok (.dup, 1) := o89 ac_cX10_emit_16 7 rfl
theorem dX10_emit_24 : decode cX10_emit 24 = .ok (.getfield 51, 3) := o180 ac_cX10_emit_16 8 0 51 rfl
theorem dX10_emit_27 : decode cX10_emit 27 = .ok (.iconst 1, 1) := o4 ac_cX10_emit_16 11 rfl
theorem dX10_emit_28 : decode cX10_emit 28 = .ok (.iadd, 1) := o96 ac_cX10_emit_16 12 rfl
theorem dX10_emit_29 : decode cX10_emit 29 = .ok (.putfield 51, 3) := o181 ac_cX10_emit_16 13 0 51 rfl
def kb_cX10_emit_32 : List Nat := [177]
theorem ac_cX10_emit_32 : AL cX10_emit 32 kb_cX10_emit_32 := AL.of (m := 1) (by decide +kernel)
theorem dX10_emit_32 : decode cX10_emit 32 = .ok (.return_, 1) := o177 ac_cX10_emit_32 0 rfl
def kb_cX10_clear_0 : List Nat := [42, 3, 181, 0, 38, 42, 3, 181, 0, 42, 42, 4, 181, 0, 45, 42, 3, 181, 0, 48]
theorem ac_cX10_clear_0 : AL cX10_clear 0 kb_cX10_clear_0 := AL.of (m := 20) (by decide +kernel)
theorem dX10_clear_0 : decode cX10_clear 0 = .ok (.aload_n 0, 1) := o42 ac_cX10_clear_0 0 rfl
theorem dX10_clear_1 : decode cX10_clear 1 = .ok (.iconst 0, 1) := o3 ac_cX10_clear_0 1 rfl
theorem dX10_clear_2 : decode cX10_clear 2 = .ok (.putfield 38, 3) := o181 ac_cX10_clear_0 2 0 38 rfl
theorem dX10_clear_5 : decode cX10_clear 5 = .ok (.aload_n 0, 1) := o42 ac_cX10_clear_0 5 rfl
theorem dX10_clear_6 : decode cX10_clear 6 = .ok (.iconst 0, 1) := o3 ac_cX10_clear_0 6 rfl
theorem dX10_clear_7 : decode cX10_clear 7 = .ok (.putfield 42, 3) := o181 ac_cX10_clear_0 7 0 42 rfl
theorem dX10_clear_10 : decode cX10_clear 10 = .ok (.aload_n 0, 1) := o42 ac_cX10_clear_0 10 rfl
theorem dX10_clear_11 : decode cX10_clear 11 = .ok (.iconst 1, 1) := o4 ac_cX10_clear_0 11 rfl
theorem dX10_clear_12 : decode cX10_clear 12 = .ok (.putfield 45, 3) := o181 ac_cX10_clear_0 12 0 45 rfl
theorem dX10_clear_15 : decode cX10_clear 15 = .ok (.aload_n 0, 1) := o42 ac_cX10_clear_0 15 rfl
def kb_cX10_clear_16 : List Nat := [3, 181, 0, 48, 42, 3, 181, 0, 51, 3, 60, 27, 7, 162, 0, 40, 42, 180, 0, 32]
theorem ac_cX10_clear_16 : AL cX10_clear 16 kb_cX10_clear_16 := AL.of (m := 20) (by decide +kernel)
theorem dX10_clear_16 : decode cX10_clear 16 = .ok (.iconst 0, 1) := o3 ac_cX10_clear_16 0 rfl
theorem dX10_clear_17 : decode cX10_clear 17 = .ok (.putfield 48, 3) := o181 ac_cX10_clear_16 1 0 48 rfl
theorem dX10_clear_20 : decode cX10_clear 20 = .ok (.aload_n 0, 1) := o42 ac_cX10_clear_16 4 rfl
theorem dX10_clear_21 : decode cX10_clear 21 = .ok (.iconst 0, 1) := o3 ac_cX10_clear_16 5 rfl
theorem dX10_clear_22 : decode cX10_clear 22 = .ok (.putfield 51, 3) := o181 ac_cX10_clear_16 6 0 51 rfl
theorem dX10_clear_25 : decode cX10_clear 25 = .ok (.iconst 0, 1) := o3 ac_cX10_clear_16 9 rfl
theorem dX10_clear_26 : decode cX10_clear 26 = .ok (.istore_n 1, 1) := o60 ac_cX10_clear_16 10 rfl
theorem dX10_clear_27 : decode cX10_clear 27 = .ok (.iload_n 1, 1) := o27 ac_cX10_clear_16 11 rfl
theorem dX10_clear_28 : decode cX10_clear 28 = .ok (.iconst 4, 1) := o7 ac_cX10_clear_16 12 rfl
theorem dX10_clear_29 : decode cX10_clear 29 = .ok (.if_icmp .ge 40, 3) := o162p ac_cX10_clear_16 13 0 40 rfl rfl
def kb_cX10_clear_32 : List Nat := [42, 180, 0, 32, 27, 42, 180, 0, 51, 79, 42, 27, 5, 160, 0, 8, 16, 245, 167, 0]
theorem ac_cX10_clear_32 : AL cX10_clear 32 kb_cX10_clear_32 := AL.of (m := 20) (by decide +kernel)
theorem dX10_clear_32 : decode cX10_clear 32 = .ok (.aload_n 0, 1) := o42 ac_cX10_clear_32 0 rfl
theorem dX10_clear_33 : decode cX10_clear 33 = .ok (.getfield 32, 3) := o180 ac_cX10_clear_32 1 0 32 rfl
theorem dX10_clear_36 : decode cX10_clear 36 = .ok (.iload_n 1, 1) := o27 ac_cX10_clear_32 4 rfl
theorem dX10_clear_37 : decode cX10_clear 37 = .ok (.aload_n 0, 1) := o42 ac_cX10_clear_32 5 rfl
theorem dX10_clear_38 : decode cX10_clear 38 = .ok (.getfield 51, 3) := o180 ac_cX10_clear_32 6 0 51 rfl
theorem dX10_clear_41 : decode cX10_clear 41 = .ok (.iastore, 1) := o79 ac_cX10_clear_32 9 rfl
theorem dX10_clear_42 : decode cX10_clear 42 = .ok (.aload_n 0, 1) := o42 ac_cX10_clear_32 10 rfl
theorem dX10_clear_43 : decode cX10_clear 43 = .ok (.iload_n 1, 1) := o27 ac_cX10_clear_32 11 rfl
theorem dX10_clear_44 : decode cX10_clear 44 = .ok (.iconst 2, 1) := o5 ac_cX10_clear_32 12 rfl
theorem dX10_clear_45 : decode cX10_clear 45 = .ok (.if_icmp .ne 8, 3) := o160p ac_cX10_clear_32 13 0 8 rfl rfl
def kb_cX10_clear_48 : List Nat := [16, 245, 167, 0, 4, 3, 182, 0, 54, 42, 16, 250, 182, 0, 54, 132, 1, 1, 167, 255]
theorem ac_cX10_clear_48 : AL cX10_clear 48 kb_cX10_clear_48 := AL.of (m := 20) (by decide +kernel)
theorem dX10_clear_48 : decode cX10_clear 48 = .ok (.bipush (-11), 2) := o16n ac_cX10_clear_48 0 245 10 rfl rfl rfl
theorem dX10_clear_50 : decode cX10_clear 50 = .ok (.goto 4, 3) := o167p ac_cX10_clear_48 2 0 4 rfl rfl
theorem dX10_clear_53 : decode cX10_clear 53 = .ok (.iconst 0, 1) := o3 ac_cX10_clear_48 5 rfl
theorem dX10_clear_54 : decode cX10_clear 54 = .ok (.invokevirtual 54, 3) := o182 ac_cX10_clear_48 6 0 54 rfl
theorem dX10_clear_57 : decode cX10_clear 57 = .ok (.aload_n 0, 1) := o42 ac_cX10_clear_48 9 rfl
theorem dX10_clear_58 : decode cX10_clear 58 = .ok (.bipush (-6), 2) := o16n ac_cX10_clear_48 10 250 5 rfl rfl rfl
theorem dX10_clear_60 : decode cX10_clear 60 = .ok (.invokevirtual 54, 3) := o182 ac_cX10_clear_48 12 0 54 rfl
theorem dX10_clear_63 : decode cX10_clear 63 = .ok (.iinc 1 1, 3) := o132p ac_cX10_clear_48 15 1 1 rfl rfl
def kb_cX10_clear_64 : List Nat := [1, 1, 167, 255, 217, 177]
theorem ac_cX10_clear_64 : AL cX10_clear 64 kb_cX10_clear_64 := AL.of (m := 6) (by decide +kernel)
theorem dX10_clear_66 : decode cX10_clear 66 = .ok (.goto (-39), 3) := o167n ac_cX10_clear_64 2 255 217 38 rfl rfl rfl
theorem dX10_clear_69 : decode cX10_clear 69 = .ok (.return_, 1) := o177 ac_cX10_clear_64 5 rfl
def kb_cX9_cutOne_0 : List Nat := [42, 180, 0, 29, 42, 180, 0, 25, 161, 0, 6, 16, 22, 172, 42, 180, 0, 9, 42, 180]
theorem ac_cX9_cutOne_0 : AL cX9_cutOne 0 kb_cX9_cutOne_0 := AL.of (m := 20) (by decide +kernel)
theorem dX9_cutOne_0 : decode cX9_cutOne 0 = .ok (.aload_n 0, 1) := o42 ac_cX9_cutOne_0 0 rfl
theorem dX9_cutOne_1 : decode cX9_cutOne 1 = .ok (.getfield 29, 3) := o180 ac_cX9_cutOne_0 1 0 29 rfl
theorem dX9_cutOne_4 : decode cX9_cutOne 4 = .ok (.aload_n 0, 1) := o42 ac_cX9_cutOne_0 4 rfl
theorem dX9_cutOne_5 : decode cX9_cutOne 5 = .ok (.getfield 25, 3) := o180 ac_cX9_cutOne_0 5 0 25 rfl
theorem dX9_cutOne_8 : decode cX9_cutOne 8 = .ok (.if_icmp .lt 6, 3) := o161p ac_cX9_cutOne_0 8 0 6 rfl rfl
theorem dX9_cutOne_11 : decode cX9_cutOne 11 = .ok (.bipush 22, 2) := o16p ac_cX9_cutOne_0 11 22 rfl rfl
theorem dX9_cutOne_13 : decode cX9_cutOne 13 = .ok (.ireturn, 1) := o172 ac_cX9_cutOne_0 13 rfl
def kb_cX9_cut_0 : List Nat := [42, 3, 181, 0, 29, 2, 60, 3, 61, 28, 17, 1, 144, 163, 0, 83, 27, 16, 22, 159]
theorem ac_cX9_cut_0 : AL cX9_cut 0 kb_cX9_cut_0 := AL.of (m := 20) (by decide +kernel)
theorem dX9_cut_0 : decode cX9_cut 0 = .ok (.aload_n 0, 1) := o42 ac_cX9_cut_0 0 rfl
theorem dX9_cut_1 : decode cX9_cut 1 = .ok (.iconst 0, 1) := o3 ac_cX9_cut_0 1 rfl
theorem dX9_cut_2 : decode cX9_cut 2 = .ok (.putfield 29, 3) := o181 ac_cX9_cut_0 2 0 29 rfl
theorem dX9_cut_5 : decode cX9_cut 5 = .ok (.iconst (-1), 1) := o2 ac_cX9_cut_0 5 rfl
theorem dX9_cut_6 : decode cX9_cut 6 = .ok (.istore_n 1, 1) := o60 ac_cX9_cut_0 6 rfl
theorem dX9_cut_7 : decode cX9_cut 7 = .ok (.iconst 0, 1) := o3 ac_cX9_cut_0 7 rfl
theorem dX9_cut_8 : decode cX9_cut 8 = .ok (.istore_n 2, 1) := o61 ac_cX9_cut_0 8 rfl
theorem dX9_cut_9 : decode cX9_cut 9 = .ok (.iload_n 2, 1) := o28 ac_cX9_cut_0 9 rfl
theorem dX9_cut_10 : decode cX9_cut 10 = .ok (.sipush 400, 3) := o17p ac_cX9_cut_0 10 1 144 rfl rfl
theorem dX9_cut_13 : decode cX9_cut 13 = .ok (.if_icmp .gt 83, 3) := o163p ac_cX9_cut_0 13 0 83 rfl rfl
def kb_cX9_cut_16 : List Nat := [27, 16, 22, 159, 0, 77, 27, 16, 23, 159, 0, 71, 42, 180, 0, 29, 42, 180, 0, 25]
theorem ac_cX9_cut_16 : AL cX9_cut 16 kb_cX9_cut_16 := AL.of (m := 20) (by decide +kernel)
theorem dX9_cut_16 : decode cX9_cut 16 = .ok (.iload_n 1, 1) := o27 ac_cX9_cut_16 0 rfl
theorem dX9_cut_17 : decode cX9_cut 17 = .ok (.bipush 22, 2) := o16p ac_cX9_cut_16 1 22 rfl rfl
theorem dX9_cut_19 : decode cX9_cut 19 = .ok (.if_icmp .eq 77, 3) := o159p ac_cX9_cut_16 3 0 77 rfl rfl
theorem dX9_cut_22 : decode cX9_cut 22 = .ok (.iload_n 1, 1) := o27 ac_cX9_cut_16 6 rfl
theorem dX9_cut_23 : decode cX9_cut 23 = .ok (.bipush 23, 2) := o16p ac_cX9_cut_16 7 23 rfl rfl
theorem dX9_cut_25 : decode cX9_cut 25 = .ok (.if_icmp .eq 71, 3) := o159p ac_cX9_cut_16 9 0 71 rfl rfl
theorem dX9_cut_28 : decode cX9_cut 28 = .ok (.aload_n 0, 1) := o42 ac_cX9_cut_16 12 rfl
theorem dX9_cut_29 : decode cX9_cut 29 = .ok (.getfield 29, 3) := o180 ac_cX9_cut_16 13 0 29 rfl
def kb_cX9_cut_32 : List Nat := [42, 180, 0, 25, 162, 0, 31, 42, 180, 0, 9, 42, 180, 0, 29, 46, 184, 0, 32, 153]
theorem ac_cX9_cut_32 : AL cX9_cut 32 kb_cX9_cut_32 := AL.of (m := 20) (by decide +kernel)
theorem dX9_cut_32 : decode cX9_cut 32 = .ok (.aload_n 0, 1) := o42 ac_cX9_cut_32 0 rfl
theorem dX9_cut_33 : decode cX9_cut 33 = .ok (.getfield 25, 3) := o180 ac_cX9_cut_32 1 0 25 rfl
theorem dX9_cut_36 : decode cX9_cut 36 = .ok (.if_icmp .ge 31, 3) := o162p ac_cX9_cut_32 4 0 31 rfl rfl
def kb_cX9_cut_64 : List Nat := [167, 255, 220, 42, 180, 0, 18, 28, 42, 180, 0, 29, 79, 42, 28, 182, 0, 36, 60, 42]
theorem ac_cX9_cut_64 : AL cX9_cut 64 kb_cX9_cut_64 := AL.of (m := 20) (by decide +kernel)
theorem dX9_cut_67 : decode cX9_cut 67 = .ok (.aload_n 0, 1) := o42 ac_cX9_cut_64 3 rfl
theorem dX9_cut_68 : decode cX9_cut 68 = .ok (.getfield 18, 3) := o180 ac_cX9_cut_64 4 0 18 rfl
theorem dX9_cut_71 : decode cX9_cut 71 = .ok (.iload_n 2, 1) := o28 ac_cX9_cut_64 7 rfl
theorem dX9_cut_72 : decode cX9_cut 72 = .ok (.aload_n 0, 1) := o42 ac_cX9_cut_64 8 rfl
theorem dX9_cut_73 : decode cX9_cut 73 = .ok (.getfield 29, 3) := o180 ac_cX9_cut_64 9 0 29 rfl
theorem dX9_cut_76 : decode cX9_cut 76 = .ok (.iastore, 1) := o79 ac_cX9_cut_64 12 rfl
theorem dX9_cut_77 : decode cX9_cut 77 = .ok (.aload_n 0, 1) := o42 ac_cX9_cut_64 13 rfl
theorem dX9_cut_78 : decode cX9_cut 78 = .ok (.iload_n 2, 1) := o28 ac_cX9_cut_64 14 rfl
theorem dX9_cut_79 : decode cX9_cut 79 = .ok (.invokevirtual 36, 3) := o182 ac_cX9_cut_64 15 0 36 rfl
def kb_cX9_cut_80 : List Nat := [0, 36, 60, 42, 180, 0, 15, 28, 27, 79, 132, 2, 1, 167, 255, 172, 177]
theorem ac_cX9_cut_80 : AL cX9_cut 80 kb_cX9_cut_80 := AL.of (m := 17) (by decide +kernel)
theorem dX9_cut_82 : decode cX9_cut 82 = .ok (.istore_n 1, 1) := o60 ac_cX9_cut_80 2 rfl
theorem dX9_cut_83 : decode cX9_cut 83 = .ok (.aload_n 0, 1) := o42 ac_cX9_cut_80 3 rfl
theorem dX9_cut_84 : decode cX9_cut 84 = .ok (.getfield 15, 3) := o180 ac_cX9_cut_80 4 0 15 rfl
theorem dX9_cut_87 : decode cX9_cut 87 = .ok (.iload_n 2, 1) := o28 ac_cX9_cut_80 7 rfl
theorem dX9_cut_88 : decode cX9_cut 88 = .ok (.iload_n 1, 1) := o27 ac_cX9_cut_80 8 rfl
theorem dX9_cut_89 : decode cX9_cut 89 = .ok (.iastore, 1) := o79 ac_cX9_cut_80 9 rfl
theorem dX9_cut_90 : decode cX9_cut 90 = .ok (.iinc 2 1, 3) := o132p ac_cX9_cut_80 10 2 1 rfl rfl
theorem dX9_cut_93 : decode cX9_cut 93 = .ok (.goto (-84), 3) := o167n ac_cX9_cut_80 13 255 172 83 rfl rfl rfl
def kb_cX9_cut_96 : List Nat := [177]
theorem ac_cX9_cut_96 : AL cX9_cut 96 kb_cX9_cut_96 := AL.of (m := 1) (by decide +kernel)
theorem dX9_cut_96 : decode cX9_cut 96 = .ok (.return_, 1) := o177 ac_cX9_cut_96 0 rfl
def kb_cX6_readInto_0 : List Nat := [43, 182, 0, 26, 42, 3, 181, 0, 31, 42, 3, 181, 0, 34, 42, 2, 181, 0, 18, 42]
theorem ac_cX6_readInto_0 : AL cX6_readInto 0 kb_cX6_readInto_0 := AL.of (m := 20) (by decide +kernel)
theorem dX6_readInto_0 : decode cX6_readInto 0 = .ok (.aload_n 1, 1) := o43 ac_cX6_readInto_0 0 rfl
theorem dX6_readInto_1 : decode cX6_readInto 1 = .ok (.invokevirtual 26, 3) := o182 ac_cX6_readInto_0 1 0 26 rfl
theorem dX6_readInto_4 : decode cX6_readInto 4 = .ok (.aload_n 0, 1) := o42 ac_cX6_readInto_0 4 rfl
theorem dX6_readInto_5 : decode cX6_readInto 5 = .ok (.iconst 0, 1) := o3 ac_cX6_readInto_0 5 rfl
theorem dX6_readInto_6 : decode cX6_readInto 6 = .ok (.putfield 31, 3) := o181 ac_cX6_readInto_0 6 0 31 rfl
theorem dX6_readInto_9 : decode cX6_readInto 9 = .ok (.aload_n 0, 1) := o42 ac_cX6_readInto_0 9 rfl
theorem dX6_readInto_10 : decode cX6_readInto 10 = .ok (.iconst 0, 1) := o3 ac_cX6_readInto_0 10 rfl
theorem dX6_readInto_11 : decode cX6_readInto 11 = .ok (.putfield 34, 3) := o181 ac_cX6_readInto_0 11 0 34 rfl
theorem dX6_readInto_14 : decode cX6_readInto 14 = .ok (.aload_n 0, 1) := o42 ac_cX6_readInto_0 14 rfl
theorem dX6_readInto_15 : decode cX6_readInto 15 = .ok (.iconst (-1), 1) := o2 ac_cX6_readInto_0 15 rfl
def kb_cX6_readInto_16 : List Nat := [181, 0, 18, 42, 3, 181, 0, 37, 42, 2, 181, 0, 40, 42, 180, 0, 12, 182, 0, 43]
theorem ac_cX6_readInto_16 : AL cX6_readInto 16 kb_cX6_readInto_16 := AL.of (m := 20) (by decide +kernel)
theorem dX6_readInto_16 : decode cX6_readInto 16 = .ok (.putfield 18, 3) := o181 ac_cX6_readInto_16 0 0 18 rfl
theorem dX6_readInto_19 : decode cX6_readInto 19 = .ok (.aload_n 0, 1) := o42 ac_cX6_readInto_16 3 rfl
theorem dX6_readInto_20 : decode cX6_readInto 20 = .ok (.iconst 0, 1) := o3 ac_cX6_readInto_16 4 rfl
theorem dX6_readInto_21 : decode cX6_readInto 21 = .ok (.putfield 37, 3) := o181 ac_cX6_readInto_16 5 0 37 rfl
theorem dX6_readInto_24 : decode cX6_readInto 24 = .ok (.aload_n 0, 1) := o42 ac_cX6_readInto_16 8 rfl
theorem dX6_readInto_25 : decode cX6_readInto 25 = .ok (.iconst (-1), 1) := o2 ac_cX6_readInto_16 9 rfl
theorem dX6_readInto_26 : decode cX6_readInto 26 = .ok (.putfield 40, 3) := o181 ac_cX6_readInto_16 10 0 40 rfl
theorem dX6_readInto_29 : decode cX6_readInto 29 = .ok (.aload_n 0, 1) := o42 ac_cX6_readInto_16 13 rfl
theorem dX6_readInto_30 : decode cX6_readInto 30 = .ok (.getfield 12, 3) := o180 ac_cX6_readInto_16 14 0 12 rfl
def kb_cX6_readInto_32 : List Nat := [12, 182, 0, 43, 42, 3, 181, 0, 46, 42, 42, 180, 0, 12, 180, 0, 49, 3, 46, 181]
theorem ac_cX6_readInto_32 : AL cX6_readInto 32 kb_cX6_readInto_32 := AL.of (m := 20) (by decide +kernel)
theorem dX6_readInto_33 : decode cX6_readInto 33 = .ok (.invokevirtual 43, 3) := o182 ac_cX6_readInto_32 1 0 43 rfl
theorem dX6_readInto_36 : decode cX6_readInto 36 = .ok (.aload_n 0, 1) := o42 ac_cX6_readInto_32 4 rfl
theorem dX6_readInto_37 : decode cX6_readInto 37 = .ok (.iconst 0, 1) := o3 ac_cX6_readInto_32 5 rfl
theorem dX6_readInto_38 : decode cX6_readInto 38 = .ok (.putfield 46, 3) := o181 ac_cX6_readInto_32 6 0 46 rfl
theorem dX6_readInto_41 : decode cX6_readInto 41 = .ok (.aload_n 0, 1) := o42 ac_cX6_readInto_32 9 rfl
theorem dX6_readInto_42 : decode cX6_readInto 42 = .ok (.aload_n 0, 1) := o42 ac_cX6_readInto_32 10 rfl
theorem dX6_readInto_43 : decode cX6_readInto 43 = .ok (.getfield 12, 3) := o180 ac_cX6_readInto_32 11 0 12 rfl
theorem dX6_readInto_46 : decode cX6_readInto 46 = .ok (.getfield 49, 3) := o180 ac_cX6_readInto_32 14 0 49 rfl
def kb_cX6_readInto_48 : List Nat := [49, 3, 46, 181, 0, 53, 4, 61, 3, 62, 28, 153, 0, 31, 42, 180, 0, 53, 16, 22]
theorem ac_cX6_readInto_48 : AL cX6_readInto 48 kb_cX6_readInto_48 := AL.of (m := 20) (by decide +kernel)
theorem dX6_readInto_49 : decode cX6_readInto 49 = .ok (.iconst 0, 1) := o3 ac_cX6_readInto_48 1 rfl
theorem dX6_readInto_50 : decode cX6_readInto 50 = .ok (.iaload, 1) := o46 ac_cX6_readInto_48 2 rfl
theorem dX6_readInto_51 : decode cX6_readInto 51 = .ok (.putfield 53, 3) := o181 ac_cX6_readInto_48 3 0 53 rfl
theorem dX6_readInto_54 : decode cX6_readInto 54 = .ok (.iconst 1, 1) := o4 ac_cX6_readInto_48 6 rfl
theorem dX6_readInto_55 : decode cX6_readInto 55 = .ok (.istore_n 2, 1) := o61 ac_cX6_readInto_48 7 rfl
theorem dX6_readInto_56 : decode cX6_readInto 56 = .ok (.iconst 0, 1) := o3 ac_cX6_readInto_48 8 rfl
theorem dX6_readInto_57 : decode cX6_readInto 57 = .ok (.istore_n 3, 1) := o62 ac_cX6_readInto_48 9 rfl
theorem dX6_readInto_58 : decode cX6_readInto 58 = .ok (.iload_n 2, 1) := o28 ac_cX6_readInto_48 10 rfl
theorem dX6_readInto_59 : decode cX6_readInto 59 = .ok (.ifCond .eq 31, 3) := o153p ac_cX6_readInto_48 11 0 31 rfl rfl
theorem dX6_readInto_62 : decode cX6_readInto 62 = .ok (.aload_n 0, 1) := o42 ac_cX6_readInto_48 14 rfl
theorem dX6_readInto_63 : decode cX6_readInto 63 = .ok (.getfield 53, 3) := o180 ac_cX6_readInto_48 15 0 53 rfl
def kb_cX6_readInto_64 : List Nat := [0, 53, 16, 22, 159, 0, 22, 29, 17, 1, 144, 163, 0, 15, 42, 43, 182, 0, 56, 61]
theorem ac_cX6_readInto_64 : AL cX6_readInto 64 kb_cX6_readInto_64 := AL.of (m := 20) (by decide +kernel)
theorem dX6_readInto_66 : decode cX6_readInto 66 = .ok (.bipush 22, 2) := o16p ac_cX6_readInto_64 2 22 rfl rfl
theorem dX6_readInto_68 : decode cX6_readInto 68 = .ok (.if_icmp .eq 22, 3) := o159p ac_cX6_readInto_64 4 0 22 rfl rfl
def kb_cX6_readInto_80 : List Nat := [182, 0, 56, 61, 132, 3, 1, 167, 255, 227, 42, 180, 0, 34, 154, 0, 26, 42, 180, 0]
theorem ac_cX6_readInto_80 : AL cX6_readInto 80 kb_cX6_readInto_80 := AL.of (m := 20) (by decide +kernel)
theorem dX6_readInto_90 : decode cX6_readInto 90 = .ok (.aload_n 0, 1) := o42 ac_cX6_readInto_80 10 rfl
theorem dX6_readInto_91 : decode cX6_readInto 91 = .ok (.getfield 34, 3) := o180 ac_cX6_readInto_80 11 0 34 rfl
theorem dX6_readInto_94 : decode cX6_readInto 94 = .ok (.ifCond .ne 26, 3) := o154p ac_cX6_readInto_80 14 0 26 rfl rfl
def kb_cX6_readInto_96 : List Nat := [26, 42, 180, 0, 37, 153, 0, 19, 42, 42, 180, 0, 37, 181, 0, 34, 42, 42, 180, 0]
theorem ac_cX6_readInto_96 : AL cX6_readInto 96 kb_cX6_readInto_96 := AL.of (m := 20) (by decide +kernel)
theorem dX6_readInto_97 : decode cX6_readInto 97 = .ok (.aload_n 0, 1) := o42 ac_cX6_readInto_96 1 rfl
theorem dX6_readInto_98 : decode cX6_readInto 98 = .ok (.getfield 37, 3) := o180 ac_cX6_readInto_96 2 0 37 rfl
theorem dX6_readInto_101 : decode cX6_readInto 101 = .ok (.ifCond .eq 19, 3) := o153p ac_cX6_readInto_96 5 0 19 rfl rfl
def kb_cX6_readInto_112 : List Nat := [42, 42, 180, 0, 40, 181, 0, 18, 42, 180, 0, 34, 172]
theorem ac_cX6_readInto_112 : AL cX6_readInto 112 kb_cX6_readInto_112 := AL.of (m := 13) (by decide +kernel)
theorem dX6_readInto_120 : decode cX6_readInto 120 = .ok (.aload_n 0, 1) := o42 ac_cX6_readInto_112 8 rfl
theorem dX6_readInto_121 : decode cX6_readInto 121 = .ok (.getfield 34, 3) := o180 ac_cX6_readInto_112 9 0 34 rfl
theorem dX6_readInto_124 : decode cX6_readInto 124 = .ok (.ireturn, 1) := o172 ac_cX6_readInto_112 12 rfl
def kb_cX0_begin_0 : List Nat := [42, 43, 180, 0, 28, 181, 0, 33, 42, 180, 0, 9, 3, 184, 0, 34, 42, 180, 0, 18]
theorem ac_cX0_begin_0 : AL cX0_begin 0 kb_cX0_begin_0 := AL.of (m := 20) (by decide +kernel)
theorem dX0_begin_0 : decode cX0_begin 0 = .ok (.aload_n 0, 1) := o42 ac_cX0_begin_0 0 rfl
theorem dX0_begin_1 : decode cX0_begin 1 = .ok (.aload_n 1, 1) := o43 ac_cX0_begin_0 1 rfl
theorem dX0_begin_2 : decode cX0_begin 2 = .ok (.getfield 28, 3) := o180 ac_cX0_begin_0 2 0 28 rfl
theorem dX0_begin_5 : decode cX0_begin 5 = .ok (.putfield 33, 3) := o181 ac_cX0_begin_0 5 0 33 rfl
theorem dX0_begin_8 : decode cX0_begin 8 = .ok (.aload_n 0, 1) := o42 ac_cX0_begin_0 8 rfl
theorem dX0_begin_9 : decode cX0_begin 9 = .ok (.getfield 9, 3) := o180 ac_cX0_begin_0 9 0 9 rfl
theorem dX0_begin_12 : decode cX0_begin 12 = .ok (.iconst 0, 1) := o3 ac_cX0_begin_0 12 rfl
theorem dX0_begin_13 : decode cX0_begin 13 = .ok (.invokestatic 34, 3) := o184 ac_cX0_begin_0 13 0 34 rfl
def kb_cX0_begin_16 : List Nat := [42, 180, 0, 18, 3, 184, 0, 34, 43, 180, 0, 40, 3, 42, 180, 0, 15, 3, 16, 7]
theorem ac_cX0_begin_16 : AL cX0_begin 16 kb_cX0_begin_16 := AL.of (m := 20) (by decide +kernel)
theorem dX0_begin_16 : decode cX0_begin 16 = .ok (.aload_n 0, 1) := o42 ac_cX0_begin_16 0 rfl
theorem dX0_begin_17 : decode cX0_begin 17 = .ok (.getfield 18, 3) := o180 ac_cX0_begin_16 1 0 18 rfl
theorem dX0_begin_20 : decode cX0_begin 20 = .ok (.iconst 0, 1) := o3 ac_cX0_begin_16 4 rfl
theorem dX0_begin_21 : decode cX0_begin 21 = .ok (.invokestatic 34, 3) := o184 ac_cX0_begin_16 5 0 34 rfl
theorem dX0_begin_24 : decode cX0_begin 24 = .ok (.aload_n 1, 1) := o43 ac_cX0_begin_16 8 rfl
theorem dX0_begin_25 : decode cX0_begin 25 = .ok (.getfield 40, 3) := o180 ac_cX0_begin_16 9 0 40 rfl
theorem dX0_begin_28 : decode cX0_begin 28 = .ok (.iconst 0, 1) := o3 ac_cX0_begin_16 12 rfl
theorem dX0_begin_29 : decode cX0_begin 29 = .ok (.aload_n 0, 1) := o42 ac_cX0_begin_16 13 rfl
theorem dX0_begin_30 : decode cX0_begin 30 = .ok (.getfield 15, 3) := o180 ac_cX0_begin_16 14 0 15 rfl
def kb_cX0_begin_32 : List Nat := [15, 3, 16, 7, 184, 0, 43, 42, 3, 181, 0, 49, 42, 3, 181, 0, 52, 42, 3, 181]
theorem ac_cX0_begin_32 : AL cX0_begin 32 kb_cX0_begin_32 := AL.of (m := 20) (by decide +kernel)
theorem dX0_begin_33 : decode cX0_begin 33 = .ok (.iconst 0, 1) := o3 ac_cX0_begin_32 1 rfl
theorem dX0_begin_34 : decode cX0_begin 34 = .ok (.bipush 7, 2) := o16p ac_cX0_begin_32 2 7 rfl rfl
theorem dX0_begin_36 : decode cX0_begin 36 = .ok (.invokestatic 43, 3) := o184 ac_cX0_begin_32 4 0 43 rfl
theorem dX0_begin_39 : decode cX0_begin 39 = .ok (.aload_n 0, 1) := o42 ac_cX0_begin_32 7 rfl
theorem dX0_begin_40 : decode cX0_begin 40 = .ok (.iconst 0, 1) := o3 ac_cX0_begin_32 8 rfl
theorem dX0_begin_41 : decode cX0_begin 41 = .ok (.putfield 49, 3) := o181 ac_cX0_begin_32 9 0 49 rfl
theorem dX0_begin_44 : decode cX0_begin 44 = .ok (.aload_n 0, 1) := o42 ac_cX0_begin_32 12 rfl
theorem dX0_begin_45 : decode cX0_begin 45 = .ok (.iconst 0, 1) := o3 ac_cX0_begin_32 13 rfl
theorem dX0_begin_46 : decode cX0_begin 46 = .ok (.putfield 52, 3) := o181 ac_cX0_begin_32 14 0 52 rfl
def kb_cX0_begin_48 : List Nat := [52, 42, 3, 181, 0, 55, 42, 3, 181, 0, 58, 42, 3, 181, 0, 61, 42, 43, 180, 0]
theorem ac_cX0_begin_48 : AL cX0_begin 48 kb_cX0_begin_48 := AL.of (m := 20) (by decide +kernel)
theorem dX0_begin_49 : decode cX0_begin 49 = .ok (.aload_n 0, 1) := o42 ac_cX0_begin_48 1 rfl
theorem dX0_begin_50 : decode cX0_begin 50 = .ok (.iconst 0, 1) := o3 ac_cX0_begin_48 2 rfl
theorem dX0_begin_51 : decode cX0_begin 51 = .ok (.putfield 55, 3) := o181 ac_cX0_begin_48 3 0 55 rfl
theorem dX0_begin_54 : decode cX0_begin 54 = .ok (.aload_n 0, 1) := o42 ac_cX0_begin_48 6 rfl
theorem dX0_begin_55 : decode cX0_begin 55 = .ok (.iconst 0, 1) := o3 ac_cX0_begin_48 7 rfl
theorem dX0_begin_56 : decode cX0_begin 56 = .ok (.putfield 58, 3) := o181 ac_cX0_begin_48 8 0 58 rfl
theorem dX0_begin_59 : decode cX0_begin 59 = .ok (.aload_n 0, 1) := o42 ac_cX0_begin_48 11 rfl
theorem dX0_begin_60 : decode cX0_begin 60 = .ok (.iconst 0, 1) := o3 ac_cX0_begin_48 12 rfl
theorem dX0_begin_61 : decode cX0_begin 61 = .ok (.putfield 61, 3) := o181 ac_cX0_begin_48 13 0 61 rfl
def kb_cX0_begin_64 : List Nat := [42, 43, 180, 0, 64, 158, 0, 7, 3, 167, 0, 4, 2, 181, 0, 21, 42, 3, 181, 0]
theorem ac_cX0_begin_64 : AL cX0_begin 64 kb_cX0_begin_64 := AL.of (m := 20) (by decide +kernel)
theorem dX0_begin_64 : decode cX0_begin 64 = .ok (.aload_n 0, 1) := o42 ac_cX0_begin_64 0 rfl
theorem dX0_begin_65 : decode cX0_begin 65 = .ok (.aload_n 1, 1) := o43 ac_cX0_begin_64 1 rfl
theorem dX0_begin_66 : decode cX0_begin 66 = .ok (.getfield 64, 3) := o180 ac_cX0_begin_64 2 0 64 rfl
theorem dX0_begin_69 : decode cX0_begin 69 = .ok (.ifCond .le 7, 3) := o158p ac_cX0_begin_64 5 0 7 rfl rfl
theorem dX0_begin_76 : decode cX0_begin 76 = .ok (.iconst (-1), 1) := o2 ac_cX0_begin_64 12 rfl
theorem dX0_begin_77 : decode cX0_begin 77 = .ok (.putfield 21, 3) := o181 ac_cX0_begin_64 13 0 21 rfl
def kb_cX0_begin_80 : List Nat := [42, 3, 181, 0, 67, 42, 2, 181, 0, 25, 177]
theorem ac_cX0_begin_80 : AL cX0_begin 80 kb_cX0_begin_80 := AL.of (m := 11) (by decide +kernel)
theorem dX0_begin_80 : decode cX0_begin 80 = .ok (.aload_n 0, 1) := o42 ac_cX0_begin_80 0 rfl
theorem dX0_begin_81 : decode cX0_begin 81 = .ok (.iconst 0, 1) := o3 ac_cX0_begin_80 1 rfl
theorem dX0_begin_82 : decode cX0_begin 82 = .ok (.putfield 67, 3) := o181 ac_cX0_begin_80 2 0 67 rfl
theorem dX0_begin_85 : decode cX0_begin 85 = .ok (.aload_n 0, 1) := o42 ac_cX0_begin_80 5 rfl
theorem dX0_begin_86 : decode cX0_begin 86 = .ok (.iconst (-1), 1) := o2 ac_cX0_begin_80 6 rfl
theorem dX0_begin_87 : decode cX0_begin 87 = .ok (.putfield 25, 3) := o181 ac_cX0_begin_80 7 0 25 rfl
theorem dX0_begin_90 : decode cX0_begin 90 = .ok (.return_, 1) := o177 ac_cX0_begin_80 10 rfl
def kb_cX5_clear_0 : List Nat := [42, 3, 181, 0, 18, 177]
theorem ac_cX5_clear_0 : AL cX5_clear 0 kb_cX5_clear_0 := AL.of (m := 6) (by decide +kernel)
theorem dX5_clear_0 : decode cX5_clear 0 = .ok (.aload_n 0, 1) := o42 ac_cX5_clear_0 0 rfl
theorem dX5_clear_1 : decode cX5_clear 1 = .ok (.iconst 0, 1) := o3 ac_cX5_clear_0 1 rfl
theorem dX5_clear_2 : decode cX5_clear 2 = .ok (.putfield 18, 3) := o181 ac_cX5_clear_0 2 0 18 rfl
theorem dX5_clear_5 : decode cX5_clear 5 = .ok (.return_, 1) := o177 ac_cX5_clear_0 5 rfl
def kb_cX11_beginAnew_0 : List Nat := [42, 180, 0, 86, 76, 42, 42, 180, 0, 82, 181, 0, 86, 42, 43, 181, 0, 82, 42, 180]
theorem ac_cX11_beginAnew_0 : AL cX11_beginAnew 0 kb_cX11_beginAnew_0 := AL.of (m := 20) (by decide +kernel)
theorem dX11_beginAnew_0 : decode cX11_beginAnew 0 = .ok (.aload_n 0, 1) := o42 ac_cX11_beginAnew_0 0 rfl
theorem dX11_beginAnew_1 : decode cX11_beginAnew 1 = .ok (.getfield 86, 3) := o180 ac_cX11_beginAnew_0 1 0 86 rfl
theorem dX11_beginAnew_4 : decode cX11_beginAnew 4 = .ok (.astore_n 1, 1) := o76 ac_cX11_beginAnew_0 4 rfl
theorem dX11_beginAnew_5 : decode cX11_beginAnew 5 = .ok (.aload_n 0, 1) := o42 ac_cX11_beginAnew_0 5 rfl
theorem dX11_beginAnew_6 : decode cX11_beginAnew 6 = .ok (.aload_n 0, 1) := o42 ac_cX11_beginAnew_0 6 rfl
theorem dX11_beginAnew_7 : decode cX11_beginAnew 7 = .ok (.getfield 82, 3) := o180 ac_cX11_beginAnew_0 7 0 82 rfl
theorem dX11_beginAnew_10 : decode cX11_beginAnew 10 = .ok (.putfield 86, 3) := o181 ac_cX11_beginAnew_0 10 0 86 rfl
theorem dX11_beginAnew_13 : decode cX11_beginAnew 13 = .ok (.aload_n 0, 1) := o42 ac_cX11_beginAnew_0 13 rfl
theorem dX11_beginAnew_14 : decode cX11_beginAnew 14 = .ok (.aload_n 1, 1) := o43 ac_cX11_beginAnew_0 14 rfl
theorem dX11_beginAnew_15 : decode cX11_beginAnew 15 = .ok (.putfield 82, 3) := o181 ac_cX11_beginAnew_0 15 0 82 rfl
def kb_cX11_beginAnew_16 : List Nat := [0, 82, 42, 180, 0, 54, 42, 180, 0, 82, 182, 0, 110, 42, 180, 0, 26, 182, 0, 114]
theorem ac_cX11_beginAnew_16 : AL cX11_beginAnew 16 kb_cX11_beginAnew_16 := AL.of (m := 20) (by decide +kernel)
theorem dX11_beginAnew_18 : decode cX11_beginAnew 18 = .ok (.aload_n 0, 1) := o42 ac_cX11_beginAnew_16 2 rfl
theorem dX11_beginAnew_19 : decode cX11_beginAnew 19 = .ok (.getfield 54, 3) := o180 ac_cX11_beginAnew_16 3 0 54 rfl
theorem dX11_beginAnew_22 : decode cX11_beginAnew 22 = .ok (.aload_n 0, 1) := o42 ac_cX11_beginAnew_16 6 rfl
theorem dX11_beginAnew_23 : decode cX11_beginAnew 23 = .ok (.getfield 82, 3) := o180 ac_cX11_beginAnew_16 7 0 82 rfl
theorem dX11_beginAnew_26 : decode cX11_beginAnew 26 = .ok (.invokevirtual 110, 3) := o182 ac_cX11_beginAnew_16 10 0 110 rfl
theorem dX11_beginAnew_29 : decode cX11_beginAnew 29 = .ok (.aload_n 0, 1) := o42 ac_cX11_beginAnew_16 13 rfl
theorem dX11_beginAnew_30 : decode cX11_beginAnew 30 = .ok (.getfield 26, 3) := o180 ac_cX11_beginAnew_16 14 0 26 rfl
def kb_cX11_beginAnew_32 : List Nat := [26, 182, 0, 114, 42, 180, 0, 33, 3, 181, 0, 117, 3, 61, 28, 6, 162, 0, 16, 42]
theorem ac_cX11_beginAnew_32 : AL cX11_beginAnew 32 kb_cX11_beginAnew_32 := AL.of (m := 20) (by decide +kernel)
theorem dX11_beginAnew_33 : decode cX11_beginAnew 33 = .ok (.invokevirtual 114, 3) := o182 ac_cX11_beginAnew_32 1 0 114 rfl
theorem dX11_beginAnew_36 : decode cX11_beginAnew 36 = .ok (.aload_n 0, 1) := o42 ac_cX11_beginAnew_32 4 rfl
theorem dX11_beginAnew_37 : decode cX11_beginAnew 37 = .ok (.getfield 33, 3) := o180 ac_cX11_beginAnew_32 5 0 33 rfl
theorem dX11_beginAnew_40 : decode cX11_beginAnew 40 = .ok (.iconst 0, 1) := o3 ac_cX11_beginAnew_32 8 rfl
theorem dX11_beginAnew_41 : decode cX11_beginAnew 41 = .ok (.putfield 117, 3) := o181 ac_cX11_beginAnew_32 9 0 117 rfl
theorem dX11_beginAnew_44 : decode cX11_beginAnew 44 = .ok (.iconst 0, 1) := o3 ac_cX11_beginAnew_32 12 rfl
theorem dX11_beginAnew_45 : decode cX11_beginAnew 45 = .ok (.istore_n 2, 1) := o61 ac_cX11_beginAnew_32 13 rfl
theorem dX11_beginAnew_46 : decode cX11_beginAnew 46 = .ok (.iload_n 2, 1) := o28 ac_cX11_beginAnew_32 14 rfl
theorem dX11_beginAnew_47 : decode cX11_beginAnew 47 = .ok (.iconst 3, 1) := o6 ac_cX11_beginAnew_32 15 rfl
def kb_cX11_beginAnew_48 : List Nat := [162, 0, 16, 42, 180, 0, 65, 28, 3, 84, 132, 2, 1, 167, 255, 241, 177]
theorem ac_cX11_beginAnew_48 : AL cX11_beginAnew 48 kb_cX11_beginAnew_48 := AL.of (m := 17) (by decide +kernel)
theorem dX11_beginAnew_48 : decode cX11_beginAnew 48 = .ok (.if_icmp .ge 16, 3) := o162p ac_cX11_beginAnew_48 0 0 16 rfl rfl
theorem dX11_beginAnew_51 : decode cX11_beginAnew 51 = .ok (.aload_n 0, 1) := o42 ac_cX11_beginAnew_48 3 rfl
theorem dX11_beginAnew_52 : decode cX11_beginAnew 52 = .ok (.getfield 65, 3) := o180 ac_cX11_beginAnew_48 4 0 65 rfl
theorem dX11_beginAnew_55 : decode cX11_beginAnew 55 = .ok (.iload_n 2, 1) := o28 ac_cX11_beginAnew_48 7 rfl
theorem dX11_beginAnew_56 : decode cX11_beginAnew 56 = .ok (.iconst 0, 1) := o3 ac_cX11_beginAnew_48 8 rfl
theorem dX11_beginAnew_57 : decode cX11_beginAnew 57 = .ok (.bastore, 1) := o84 ac_cX11_beginAnew_48 9 rfl
theorem dX11_beginAnew_58 : decode cX11_beginAnew 58 = .ok (.iinc 2 1, 3) := o132p ac_cX11_beginAnew_48 10 2 1 rfl rfl
theorem dX11_beginAnew_61 : decode cX11_beginAnew 61 = .ok (.goto (-15), 3) := o167n ac_cX11_beginAnew_48 13 255 241 14 rfl rfl rfl
def kb_cX11_beginAnew_64 : List Nat := [177]
theorem ac_cX11_beginAnew_64 : AL cX11_beginAnew 64 kb_cX11_beginAnew_64 := AL.of (m := 1) (by decide +kernel)
theorem dX11_beginAnew_64 : decode cX11_beginAnew 64 = .ok (.return_, 1) := o177 ac_cX11_beginAnew_64 0 rfl
def kb_cX11_read_0 : List Nat := [42, 180, 0, 10, 42, 180, 0, 86, 182, 0, 103, 60, 42, 180, 0, 10, 180, 0, 89, 3]
theorem ac_cX11_read_0 : AL cX11_read 0 kb_cX11_read_0 := AL.of (m := 20) (by decide +kernel)
theorem dX11_read_0 : decode cX11_read 0 = .ok (.aload_n 0, 1) := o42 ac_cX11_read_0 0 rfl
theorem dX11_read_1 : decode cX11_read 1 = .ok (.getfield 10, 3) := o180 ac_cX11_read_0 1 0 10 rfl
theorem dX11_read_4 : decode cX11_read 4 = .ok (.aload_n 0, 1) := o42 ac_cX11_read_0 4 rfl
theorem dX11_read_5 : decode cX11_read 5 = .ok (.getfield 86, 3) := o180 ac_cX11_read_0 5 0 86 rfl
theorem dX11_read_8 : decode cX11_read 8 = .ok (.invokevirtual 103, 3) := o182 ac_cX11_read_0 8 0 103 rfl
theorem dX11_read_11 : decode cX11_read 11 = .ok (.istore_n 1, 1) := o60 ac_cX11_read_0 11 rfl
theorem dX11_read_12 : decode cX11_read 12 = .ok (.aload_n 0, 1) := o42 ac_cX11_read_0 12 rfl
theorem dX11_read_13 : decode cX11_read 13 = .ok (.getfield 10, 3) := o180 ac_cX11_read_0 13 0 10 rfl
def kb_cX11_read_16 : List Nat := [180, 0, 89, 3, 181, 0, 93, 27, 154, 0, 7, 42, 182, 0, 107, 27, 172]
theorem ac_cX11_read_16 : AL cX11_read 16 kb_cX11_read_16 := AL.of (m := 17) (by decide +kernel)
theorem dX11_read_16 : decode cX11_read 16 = .ok (.getfield 89, 3) := o180 ac_cX11_read_16 0 0 89 rfl
theorem dX11_read_19 : decode cX11_read 19 = .ok (.iconst 0, 1) := o3 ac_cX11_read_16 3 rfl
theorem dX11_read_20 : decode cX11_read 20 = .ok (.putfield 93, 3) := o181 ac_cX11_read_16 4 0 93 rfl
theorem dX11_read_23 : decode cX11_read 23 = .ok (.iload_n 1, 1) := o27 ac_cX11_read_16 7 rfl
theorem dX11_read_24 : decode cX11_read 24 = .ok (.ifCond .ne 7, 3) := o154p ac_cX11_read_16 8 0 7 rfl rfl
theorem dX11_read_27 : decode cX11_read 27 = .ok (.aload_n 0, 1) := o42 ac_cX11_read_16 11 rfl
theorem dX11_read_28 : decode cX11_read 28 = .ok (.invokevirtual 107, 3) := o182 ac_cX11_read_16 12 0 107 rfl
theorem dX11_read_31 : decode cX11_read 31 = .ok (.iload_n 1, 1) := o27 ac_cX11_read_16 15 rfl
def kb_cX11_read_32 : List Nat := [172]
theorem ac_cX11_read_32 : AL cX11_read 32 kb_cX11_read_32 := AL.of (m := 1) (by decide +kernel)
theorem dX11_read_32 : decode cX11_read 32 = .ok (.ireturn, 1) := o172 ac_cX11_read_32 0 rfl
def kb_cX12_in_0 : List Nat := [26, 27, 161, 0, 12, 26, 28, 163, 0, 7, 4, 167, 0, 4, 3, 172]
theorem ac_cX12_in_0 : AL cX12_in 0 kb_cX12_in_0 := AL.of (m := 16) (by decide +kernel)
theorem dX12_in_0 : decode cX12_in 0 = .ok (.iload_n 0, 1) := o26 ac_cX12_in_0 0 rfl
theorem dX12_in_1 : decode cX12_in 1 = .ok (.iload_n 1, 1) := o27 ac_cX12_in_0 1 rfl
theorem dX12_in_2 : decode cX12_in 2 = .ok (.if_icmp .lt 12, 3) := o161p ac_cX12_in_0 2 0 12 rfl rfl
theorem dX12_in_5 : decode cX12_in 5 = .ok (.iload_n 0, 1) := o26 ac_cX12_in_0 5 rfl
theorem dX12_in_6 : decode cX12_in 6 = .ok (.iload_n 2, 1) := o28 ac_cX12_in_0 6 rfl
theorem dX12_in_7 : decode cX12_in 7 = .ok (.if_icmp .gt 7, 3) := o163p ac_cX12_in_0 7 0 7 rfl rfl
theorem dX12_in_10 : decode cX12_in 10 = .ok (.iconst 1, 1) := o4 ac_cX12_in_0 10 rfl
theorem dX12_in_11 : decode cX12_in 11 = .ok (.goto 4, 3) := o167p ac_cX12_in_0 11 0 4 rfl rfl
theorem dX12_in_15 : decode cX12_in 15 = .ok (.ireturn, 1) := o172 ac_cX12_in_0 15 rfl
theorem dX12_in_14 : decode cX12_in 14 = .ok (.iconst 0, 1) := o3 ac_cX12_in_0 14 rfl
def kb_cX12_isThing_0 : List Nat := [27, 3, 42, 180, 0, 43, 42, 180, 0, 221, 46, 4, 100, 184, 1, 45, 172]
theorem ac_cX12_isThing_0 : AL cX12_isThing 0 kb_cX12_isThing_0 := AL.of (m := 17) (by decide +kernel)
theorem dX12_isThing_0 : decode cX12_isThing 0 = .ok (.iload_n 1, 1) := o27 ac_cX12_isThing_0 0 rfl
theorem dX12_isThing_1 : decode cX12_isThing 1 = .ok (.iconst 0, 1) := o3 ac_cX12_isThing_0 1 rfl
theorem dX12_isThing_2 : decode cX12_isThing 2 = .ok (.aload_n 0, 1) := o42 ac_cX12_isThing_0 2 rfl
theorem dX12_isThing_3 : decode cX12_isThing 3 = .ok (.getfield 43, 3) := o180 ac_cX12_isThing_0 3 0 43 rfl
theorem dX12_isThing_6 : decode cX12_isThing 6 = .ok (.aload_n 0, 1) := o42 ac_cX12_isThing_0 6 rfl
theorem dX12_isThing_7 : decode cX12_isThing 7 = .ok (.getfield 221, 3) := o180 ac_cX12_isThing_0 7 0 221 rfl
theorem dX12_isThing_10 : decode cX12_isThing 10 = .ok (.iaload, 1) := o46 ac_cX12_isThing_0 10 rfl
theorem dX12_isThing_11 : decode cX12_isThing 11 = .ok (.iconst 1, 1) := o4 ac_cX12_isThing_0 11 rfl
theorem dX12_isThing_12 : decode cX12_isThing 12 = .ok (.isub, 1) := o100 ac_cX12_isThing_0 12 rfl
theorem dX12_isThing_13 : decode cX12_isThing 13 = .ok (.invokestatic 301, 3) := o184 ac_cX12_isThing_0 13 1 45 rfl
def kb_cX12_isThing_16 : List Nat := [172]
theorem ac_cX12_isThing_16 : AL cX12_isThing 16 kb_cX12_isThing_16 := AL.of (m := 1) (by decide +kernel)
theorem dX12_isThing_16 : decode cX12_isThing 16 = .ok (.ireturn, 1) := o172 ac_cX12_isThing_16 0 rfl
def kb_cX12_isPattern_0 : List Nat := [27, 3, 42, 180, 0, 55, 42, 180, 0, 221, 46, 4, 100, 184, 1, 45, 172]
theorem ac_cX12_isPattern_0 : AL cX12_isPattern 0 kb_cX12_isPattern_0 := AL.of (m := 17) (by decide +kernel)
theorem dX12_isPattern_0 : decode cX12_isPattern 0 = .ok (.iload_n 1, 1) := o27 ac_cX12_isPattern_0 0 rfl
theorem dX12_isPattern_1 : decode cX12_isPattern 1 = .ok (.iconst 0, 1) := o3 ac_cX12_isPattern_0 1 rfl
theorem dX12_isPattern_2 : decode cX12_isPattern 2 = .ok (.aload_n 0, 1) := o42 ac_cX12_isPattern_0 2 rfl
theorem dX12_isPattern_3 : decode cX12_isPattern 3 = .ok (.getfield 55, 3) := o180 ac_cX12_isPattern_0 3 0 55 rfl
theorem dX12_isPattern_6 : decode cX12_isPattern 6 = .ok (.aload_n 0, 1) := o42 ac_cX12_isPattern_0 6 rfl
theorem dX12_isPattern_7 : decode cX12_isPattern 7 = .ok (.getfield 221, 3) := o180 ac_cX12_isPattern_0 7 0 221 rfl
theorem dX12_isPattern_10 : decode cX12_isPattern 10 = .ok (.iaload, 1) := o46 ac_cX12_isPattern_0 10 rfl
theorem dX12_isPattern_11 : decode cX12_isPattern 11 = .ok (.iconst 1, 1) := o4 ac_cX12_isPattern_0 11 rfl
theorem dX12_isPattern_12 : decode cX12_isPattern 12 = .ok (.isub, 1) := o100 ac_cX12_isPattern_0 12 rfl
theorem dX12_isPattern_13 : decode cX12_isPattern 13 = .ok (.invokestatic 301, 3) := o184 ac_cX12_isPattern_0 13 1 45 rfl
def kb_cX12_isPattern_16 : List Nat := [172]
theorem ac_cX12_isPattern_16 : AL cX12_isPattern 16 kb_cX12_isPattern_16 := AL.of (m := 1) (by decide +kernel)
theorem dX12_isPattern_16 : decode cX12_isPattern 16 = .ok (.ireturn, 1) := o172 ac_cX12_isPattern_16 0 rfl
def kb_cX12_isLong_0 : List Nat := [26, 3, 16, 60, 184, 1, 45, 172]
theorem ac_cX12_isLong_0 : AL cX12_isLong 0 kb_cX12_isLong_0 := AL.of (m := 8) (by decide +kernel)
theorem dX12_isLong_0 : decode cX12_isLong 0 = .ok (.iload_n 0, 1) := o26 ac_cX12_isLong_0 0 rfl
theorem dX12_isLong_1 : decode cX12_isLong 1 = .ok (.iconst 0, 1) := o3 ac_cX12_isLong_0 1 rfl
theorem dX12_isLong_2 : decode cX12_isLong 2 = .ok (.bipush 60, 2) := o16p ac_cX12_isLong_0 2 60 rfl rfl
theorem dX12_isLong_4 : decode cX12_isLong 4 = .ok (.invokestatic 301, 3) := o184 ac_cX12_isLong_0 4 1 45 rfl
theorem dX12_isLong_7 : decode cX12_isLong 7 = .ok (.ireturn, 1) := o172 ac_cX12_isLong_0 7 rfl
def kb_cX12_isSome_0 : List Nat := [26, 4, 16, 60, 184, 1, 45, 172]
theorem ac_cX12_isSome_0 : AL cX12_isSome 0 kb_cX12_isSome_0 := AL.of (m := 8) (by decide +kernel)
theorem dX12_isSome_0 : decode cX12_isSome 0 = .ok (.iload_n 0, 1) := o26 ac_cX12_isSome_0 0 rfl
theorem dX12_isSome_1 : decode cX12_isSome 1 = .ok (.iconst 1, 1) := o4 ac_cX12_isSome_0 1 rfl
theorem dX12_isSome_2 : decode cX12_isSome 2 = .ok (.bipush 60, 2) := o16p ac_cX12_isSome_0 2 60 rfl rfl
theorem dX12_isSome_4 : decode cX12_isSome 4 = .ok (.invokestatic 301, 3) := o184 ac_cX12_isSome_0 4 1 45 rfl
theorem dX12_isSome_7 : decode cX12_isSome 7 = .ok (.ireturn, 1) := o172 ac_cX12_isSome_0 7 rfl
def kb_cX12_held_0 : List Nat := [26, 27, 162, 0, 7, 27, 167, 0, 13, 26, 28, 164, 0, 7, 28, 167, 0, 4, 26, 172]
theorem ac_cX12_held_0 : AL cX12_held 0 kb_cX12_held_0 := AL.of (m := 20) (by decide +kernel)
theorem dX12_held_0 : decode cX12_held 0 = .ok (.iload_n 0, 1) := o26 ac_cX12_held_0 0 rfl
theorem dX12_held_1 : decode cX12_held 1 = .ok (.iload_n 1, 1) := o27 ac_cX12_held_0 1 rfl
theorem dX12_held_2 : decode cX12_held 2 = .ok (.if_icmp .ge 7, 3) := o162p ac_cX12_held_0 2 0 7 rfl rfl
theorem dX12_held_5 : decode cX12_held 5 = .ok (.iload_n 1, 1) := o27 ac_cX12_held_0 5 rfl
theorem dX12_held_6 : decode cX12_held 6 = .ok (.goto 13, 3) := o167p ac_cX12_held_0 6 0 13 rfl rfl
def kb_cX12_held_16 : List Nat := [0, 4, 26, 172]
theorem ac_cX12_held_16 : AL cX12_held 16 kb_cX12_held_16 := AL.of (m := 4) (by decide +kernel)
theorem dX12_held_19 : decode cX12_held 19 = .ok (.ireturn, 1) := o172 ac_cX12_held_16 3 rfl
def kb_cX12_bits_0 : List Nat := [3, 60, 3, 61, 28, 16, 10, 162, 0, 17, 27, 26, 28, 122, 4, 126, 96, 60, 132, 2]
theorem ac_cX12_bits_0 : AL cX12_bits 0 kb_cX12_bits_0 := AL.of (m := 20) (by decide +kernel)
theorem dX12_bits_0 : decode cX12_bits 0 = .ok (.iconst 0, 1) := o3 ac_cX12_bits_0 0 rfl
theorem dX12_bits_1 : decode cX12_bits 1 = .ok (.istore_n 1, 1) := o60 ac_cX12_bits_0 1 rfl
theorem dX12_bits_2 : decode cX12_bits 2 = .ok (.iconst 0, 1) := o3 ac_cX12_bits_0 2 rfl
theorem dX12_bits_3 : decode cX12_bits 3 = .ok (.istore_n 2, 1) := o61 ac_cX12_bits_0 3 rfl
theorem dX12_bits_4 : decode cX12_bits 4 = .ok (.iload_n 2, 1) := o28 ac_cX12_bits_0 4 rfl
theorem dX12_bits_5 : decode cX12_bits 5 = .ok (.bipush 10, 2) := o16p ac_cX12_bits_0 5 10 rfl rfl
theorem dX12_bits_7 : decode cX12_bits 7 = .ok (.if_icmp .ge 17, 3) := o162p ac_cX12_bits_0 7 0 17 rfl rfl
theorem dX12_bits_10 : decode cX12_bits 10 = .ok (.iload_n 1, 1) := o27 ac_cX12_bits_0 10 rfl
theorem dX12_bits_11 : decode cX12_bits 11 = .ok (.iload_n 0, 1) := o26 ac_cX12_bits_0 11 rfl
theorem dX12_bits_12 : decode cX12_bits 12 = .ok (.iload_n 2, 1) := o28 ac_cX12_bits_0 12 rfl
theorem dX12_bits_13 : decode cX12_bits 13 = .ok (.ishr, 1) := o122 ac_cX12_bits_0 13 rfl
theorem dX12_bits_14 : decode cX12_bits 14 = .ok (.iconst 1, 1) := o4 ac_cX12_bits_0 14 rfl
theorem dX12_bits_15 : decode cX12_bits 15 = .ok (.iand, 1) := o126 ac_cX12_bits_0 15 rfl
def kb_cX12_bits_16 : List Nat := [96, 60, 132, 2, 1, 167, 255, 239, 27, 172]
theorem ac_cX12_bits_16 : AL cX12_bits 16 kb_cX12_bits_16 := AL.of (m := 10) (by decide +kernel)
theorem dX12_bits_16 : decode cX12_bits 16 = .ok (.iadd, 1) := o96 ac_cX12_bits_16 0 rfl
theorem dX12_bits_17 : decode cX12_bits 17 = .ok (.istore_n 1, 1) := o60 ac_cX12_bits_16 1 rfl
theorem dX12_bits_18 : decode cX12_bits 18 = .ok (.iinc 2 1, 3) := o132p ac_cX12_bits_16 2 2 1 rfl rfl
theorem dX12_bits_21 : decode cX12_bits 21 = .ok (.goto (-17), 3) := o167n ac_cX12_bits_16 5 255 239 16 rfl rfl rfl
theorem dX12_bits_24 : decode cX12_bits 24 = .ok (.iload_n 1, 1) := o27 ac_cX12_bits_16 8 rfl
theorem dX12_bits_25 : decode cX12_bits 25 = .ok (.ireturn, 1) := o172 ac_cX12_bits_16 9 rfl
def kb_cX12_thingsSo_0 : List Nat := [3, 61, 3, 62, 29, 42, 180, 0, 43, 42, 180, 0, 221, 46, 162, 0, 25, 42, 180, 0]
theorem ac_cX12_thingsSo_0 : AL cX12_thingsSo 0 kb_cX12_thingsSo_0 := AL.of (m := 20) (by decide +kernel)
theorem dX12_thingsSo_0 : decode cX12_thingsSo 0 = .ok (.iconst 0, 1) := o3 ac_cX12_thingsSo_0 0 rfl
theorem dX12_thingsSo_1 : decode cX12_thingsSo 1 = .ok (.istore_n 2, 1) := o61 ac_cX12_thingsSo_0 1 rfl
theorem dX12_thingsSo_2 : decode cX12_thingsSo 2 = .ok (.iconst 0, 1) := o3 ac_cX12_thingsSo_0 2 rfl
theorem dX12_thingsSo_3 : decode cX12_thingsSo 3 = .ok (.istore_n 3, 1) := o62 ac_cX12_thingsSo_0 3 rfl
theorem dX12_thingsSo_4 : decode cX12_thingsSo 4 = .ok (.iload_n 3, 1) := o29 ac_cX12_thingsSo_0 4 rfl
theorem dX12_thingsSo_5 : decode cX12_thingsSo 5 = .ok (.aload_n 0, 1) := o42 ac_cX12_thingsSo_0 5 rfl
theorem dX12_thingsSo_6 : decode cX12_thingsSo 6 = .ok (.getfield 43, 3) := o180 ac_cX12_thingsSo_0 6 0 43 rfl
theorem dX12_thingsSo_9 : decode cX12_thingsSo 9 = .ok (.aload_n 0, 1) := o42 ac_cX12_thingsSo_0 9 rfl
theorem dX12_thingsSo_10 : decode cX12_thingsSo 10 = .ok (.getfield 221, 3) := o180 ac_cX12_thingsSo_0 10 0 221 rfl
theorem dX12_thingsSo_13 : decode cX12_thingsSo 13 = .ok (.iaload, 1) := o46 ac_cX12_thingsSo_0 13 rfl
theorem dX12_thingsSo_14 : decode cX12_thingsSo 14 = .ok (.if_icmp .ge 25, 3) := o162p ac_cX12_thingsSo_0 14 0 25 rfl rfl
def kb_cX12_thingsSo_32 : List Nat := [61, 132, 3, 1, 167, 255, 224, 28, 172]
theorem ac_cX12_thingsSo_32 : AL cX12_thingsSo 32 kb_cX12_thingsSo_32 := AL.of (m := 9) (by decide +kernel)
theorem dX12_thingsSo_39 : decode cX12_thingsSo 39 = .ok (.iload_n 2, 1) := o28 ac_cX12_thingsSo_32 7 rfl
theorem dX12_thingsSo_40 : decode cX12_thingsSo 40 = .ok (.ireturn, 1) := o172 ac_cX12_thingsSo_32 8 rfl
def kb_cX12_landsAt_0 : List Nat := [3, 61, 3, 62, 29, 42, 180, 0, 43, 42, 180, 0, 221, 46, 162, 0, 21, 42, 29, 27]
theorem ac_cX12_landsAt_0 : AL cX12_landsAt 0 kb_cX12_landsAt_0 := AL.of (m := 20) (by decide +kernel)
theorem dX12_landsAt_0 : decode cX12_landsAt 0 = .ok (.iconst 0, 1) := o3 ac_cX12_landsAt_0 0 rfl
theorem dX12_landsAt_1 : decode cX12_landsAt 1 = .ok (.istore_n 2, 1) := o61 ac_cX12_landsAt_0 1 rfl
theorem dX12_landsAt_2 : decode cX12_landsAt 2 = .ok (.iconst 0, 1) := o3 ac_cX12_landsAt_0 2 rfl
theorem dX12_landsAt_3 : decode cX12_landsAt 3 = .ok (.istore_n 3, 1) := o62 ac_cX12_landsAt_0 3 rfl
theorem dX12_landsAt_4 : decode cX12_landsAt 4 = .ok (.iload_n 3, 1) := o29 ac_cX12_landsAt_0 4 rfl
theorem dX12_landsAt_5 : decode cX12_landsAt 5 = .ok (.aload_n 0, 1) := o42 ac_cX12_landsAt_0 5 rfl
theorem dX12_landsAt_6 : decode cX12_landsAt 6 = .ok (.getfield 43, 3) := o180 ac_cX12_landsAt_0 6 0 43 rfl
theorem dX12_landsAt_9 : decode cX12_landsAt 9 = .ok (.aload_n 0, 1) := o42 ac_cX12_landsAt_0 9 rfl
theorem dX12_landsAt_10 : decode cX12_landsAt 10 = .ok (.getfield 221, 3) := o180 ac_cX12_landsAt_0 10 0 221 rfl
theorem dX12_landsAt_13 : decode cX12_landsAt 13 = .ok (.iaload, 1) := o46 ac_cX12_landsAt_0 13 rfl
theorem dX12_landsAt_14 : decode cX12_landsAt 14 = .ok (.if_icmp .ge 21, 3) := o162p ac_cX12_landsAt_0 14 0 21 rfl rfl
def kb_cX12_landsAt_32 : List Nat := [167, 255, 228, 28, 172]
theorem ac_cX12_landsAt_32 : AL cX12_landsAt 32 kb_cX12_landsAt_32 := AL.of (m := 5) (by decide +kernel)
theorem dX12_landsAt_35 : decode cX12_landsAt 35 = .ok (.iload_n 2, 1) := o28 ac_cX12_landsAt_32 3 rfl
theorem dX12_landsAt_36 : decode cX12_landsAt 36 = .ok (.ireturn, 1) := o172 ac_cX12_landsAt_32 4 rfl
def kb_cX12_catchesNow_0 : List Nat := [3, 60, 27, 42, 180, 0, 43, 42, 180, 0, 221, 46, 162, 0, 20, 42, 27, 3, 182, 1]
theorem ac_cX12_catchesNow_0 : AL cX12_catchesNow 0 kb_cX12_catchesNow_0 := AL.of (m := 20) (by decide +kernel)
theorem dX12_catchesNow_0 : decode cX12_catchesNow 0 = .ok (.iconst 0, 1) := o3 ac_cX12_catchesNow_0 0 rfl
theorem dX12_catchesNow_1 : decode cX12_catchesNow 1 = .ok (.istore_n 1, 1) := o60 ac_cX12_catchesNow_0 1 rfl
theorem dX12_catchesNow_2 : decode cX12_catchesNow 2 = .ok (.iload_n 1, 1) := o27 ac_cX12_catchesNow_0 2 rfl
theorem dX12_catchesNow_3 : decode cX12_catchesNow 3 = .ok (.aload_n 0, 1) := o42 ac_cX12_catchesNow_0 3 rfl
theorem dX12_catchesNow_4 : decode cX12_catchesNow 4 = .ok (.getfield 43, 3) := o180 ac_cX12_catchesNow_0 4 0 43 rfl
theorem dX12_catchesNow_7 : decode cX12_catchesNow 7 = .ok (.aload_n 0, 1) := o42 ac_cX12_catchesNow_0 7 rfl
theorem dX12_catchesNow_8 : decode cX12_catchesNow 8 = .ok (.getfield 221, 3) := o180 ac_cX12_catchesNow_0 8 0 221 rfl
theorem dX12_catchesNow_11 : decode cX12_catchesNow 11 = .ok (.iaload, 1) := o46 ac_cX12_catchesNow_0 11 rfl
theorem dX12_catchesNow_12 : decode cX12_catchesNow 12 = .ok (.if_icmp .ge 20, 3) := o162p ac_cX12_catchesNow_0 12 0 20 rfl rfl
def kb_cX12_catchesNow_32 : List Nat := [16, 254, 172]
theorem ac_cX12_catchesNow_32 : AL cX12_catchesNow 32 kb_cX12_catchesNow_32 := AL.of (m := 3) (by decide +kernel)
theorem dX12_catchesNow_32 : decode cX12_catchesNow 32 = .ok (.bipush (-2), 2) := o16n ac_cX12_catchesNow_32 0 254 1 rfl rfl rfl
theorem dX12_catchesNow_34 : decode cX12_catchesNow 34 = .ok (.ireturn, 1) := o172 ac_cX12_catchesNow_32 2 rfl
def kb_cX12_heightNow_0 : List Nat := [42, 180, 0, 110, 16, 28, 46, 155, 0, 11, 42, 180, 0, 110, 16, 28, 46, 172, 42, 180]
theorem ac_cX12_heightNow_0 : AL cX12_heightNow 0 kb_cX12_heightNow_0 := AL.of (m := 20) (by decide +kernel)
theorem dX12_heightNow_0 : decode cX12_heightNow 0 = .ok (.aload_n 0, 1) := o42 ac_cX12_heightNow_0 0 rfl
theorem dX12_heightNow_1 : decode cX12_heightNow 1 = .ok (.getfield 110, 3) := o180 ac_cX12_heightNow_0 1 0 110 rfl
theorem dX12_heightNow_4 : decode cX12_heightNow 4 = .ok (.bipush 28, 2) := o16p ac_cX12_heightNow_0 4 28 rfl rfl
theorem dX12_heightNow_6 : decode cX12_heightNow 6 = .ok (.iaload, 1) := o46 ac_cX12_heightNow_0 6 rfl
theorem dX12_heightNow_7 : decode cX12_heightNow 7 = .ok (.ifCond .lt 11, 3) := o155p ac_cX12_heightNow_0 7 0 11 rfl rfl
def kb_cX12_heightNow_16 : List Nat := [46, 172, 42, 180, 0, 110, 16, 26, 46, 156, 0, 7, 6, 167, 0, 29, 42, 42, 180, 0]
theorem ac_cX12_heightNow_16 : AL cX12_heightNow 16 kb_cX12_heightNow_16 := AL.of (m := 20) (by decide +kernel)
theorem dX12_heightNow_18 : decode cX12_heightNow 18 = .ok (.aload_n 0, 1) := o42 ac_cX12_heightNow_16 2 rfl
theorem dX12_heightNow_19 : decode cX12_heightNow 19 = .ok (.getfield 110, 3) := o180 ac_cX12_heightNow_16 3 0 110 rfl
theorem dX12_heightNow_22 : decode cX12_heightNow 22 = .ok (.bipush 26, 2) := o16p ac_cX12_heightNow_16 6 26 rfl rfl
theorem dX12_heightNow_24 : decode cX12_heightNow 24 = .ok (.iaload, 1) := o46 ac_cX12_heightNow_16 8 rfl
theorem dX12_heightNow_25 : decode cX12_heightNow 25 = .ok (.ifCond .ge 7, 3) := o156p ac_cX12_heightNow_16 9 0 7 rfl rfl
theorem dX12_heightNow_28 : decode cX12_heightNow 28 = .ok (.iconst 3, 1) := o6 ac_cX12_heightNow_16 12 rfl
theorem dX12_heightNow_29 : decode cX12_heightNow 29 = .ok (.goto 29, 3) := o167p ac_cX12_heightNow_16 13 0 29 rfl rfl
def kb_cX12_heightNow_48 : List Nat := [180, 0, 110, 16, 27, 46, 100, 182, 1, 65, 172]
theorem ac_cX12_heightNow_48 : AL cX12_heightNow 48 kb_cX12_heightNow_48 := AL.of (m := 11) (by decide +kernel)
theorem dX12_heightNow_58 : decode cX12_heightNow 58 = .ok (.ireturn, 1) := o172 ac_cX12_heightNow_48 10 rfl
def kb_cX12_weightsOf_0 : List Nat := [3, 61, 3, 62, 29, 42, 180, 0, 43, 42, 180, 0, 221, 46, 162, 0, 35, 27, 29, 122]
theorem ac_cX12_weightsOf_0 : AL cX12_weightsOf 0 kb_cX12_weightsOf_0 := AL.of (m := 20) (by decide +kernel)
theorem dX12_weightsOf_0 : decode cX12_weightsOf 0 = .ok (.iconst 0, 1) := o3 ac_cX12_weightsOf_0 0 rfl
theorem dX12_weightsOf_1 : decode cX12_weightsOf 1 = .ok (.istore_n 2, 1) := o61 ac_cX12_weightsOf_0 1 rfl
theorem dX12_weightsOf_2 : decode cX12_weightsOf 2 = .ok (.iconst 0, 1) := o3 ac_cX12_weightsOf_0 2 rfl
theorem dX12_weightsOf_3 : decode cX12_weightsOf 3 = .ok (.istore_n 3, 1) := o62 ac_cX12_weightsOf_0 3 rfl
theorem dX12_weightsOf_4 : decode cX12_weightsOf 4 = .ok (.iload_n 3, 1) := o29 ac_cX12_weightsOf_0 4 rfl
theorem dX12_weightsOf_5 : decode cX12_weightsOf 5 = .ok (.aload_n 0, 1) := o42 ac_cX12_weightsOf_0 5 rfl
theorem dX12_weightsOf_6 : decode cX12_weightsOf 6 = .ok (.getfield 43, 3) := o180 ac_cX12_weightsOf_0 6 0 43 rfl
theorem dX12_weightsOf_9 : decode cX12_weightsOf 9 = .ok (.aload_n 0, 1) := o42 ac_cX12_weightsOf_0 9 rfl
theorem dX12_weightsOf_10 : decode cX12_weightsOf 10 = .ok (.getfield 221, 3) := o180 ac_cX12_weightsOf_0 10 0 221 rfl
theorem dX12_weightsOf_13 : decode cX12_weightsOf 13 = .ok (.iaload, 1) := o46 ac_cX12_weightsOf_0 13 rfl
theorem dX12_weightsOf_14 : decode cX12_weightsOf 14 = .ok (.if_icmp .ge 35, 3) := o162p ac_cX12_weightsOf_0 14 0 35 rfl rfl
def kb_cX12_weightsOf_48 : List Nat := [214, 28, 172]
theorem ac_cX12_weightsOf_48 : AL cX12_weightsOf 48 kb_cX12_weightsOf_48 := AL.of (m := 3) (by decide +kernel)
theorem dX12_weightsOf_49 : decode cX12_weightsOf 49 = .ok (.iload_n 2, 1) := o28 ac_cX12_weightsOf_48 1 rfl
theorem dX12_weightsOf_50 : decode cX12_weightsOf 50 = .ok (.ireturn, 1) := o172 ac_cX12_weightsOf_48 2 rfl
def kb_cX12_copies_0 : List Nat := [3, 60, 27, 16, 29, 162, 0, 21, 42, 180, 0, 110, 27, 42, 180, 0, 107, 27, 46, 79]
theorem ac_cX12_copies_0 : AL cX12_copies 0 kb_cX12_copies_0 := AL.of (m := 20) (by decide +kernel)
theorem dX12_copies_0 : decode cX12_copies 0 = .ok (.iconst 0, 1) := o3 ac_cX12_copies_0 0 rfl
theorem dX12_copies_1 : decode cX12_copies 1 = .ok (.istore_n 1, 1) := o60 ac_cX12_copies_0 1 rfl
theorem dX12_copies_2 : decode cX12_copies 2 = .ok (.iload_n 1, 1) := o27 ac_cX12_copies_0 2 rfl
theorem dX12_copies_3 : decode cX12_copies 3 = .ok (.bipush 29, 2) := o16p ac_cX12_copies_0 3 29 rfl rfl
theorem dX12_copies_5 : decode cX12_copies 5 = .ok (.if_icmp .ge 21, 3) := o162p ac_cX12_copies_0 5 0 21 rfl rfl
theorem dX12_copies_8 : decode cX12_copies 8 = .ok (.aload_n 0, 1) := o42 ac_cX12_copies_0 8 rfl
theorem dX12_copies_9 : decode cX12_copies 9 = .ok (.getfield 110, 3) := o180 ac_cX12_copies_0 9 0 110 rfl
theorem dX12_copies_12 : decode cX12_copies 12 = .ok (.iload_n 1, 1) := o27 ac_cX12_copies_0 12 rfl
theorem dX12_copies_13 : decode cX12_copies 13 = .ok (.aload_n 0, 1) := o42 ac_cX12_copies_0 13 rfl
theorem dX12_copies_14 : decode cX12_copies 14 = .ok (.getfield 107, 3) := o180 ac_cX12_copies_0 14 0 107 rfl
def kb_cX12_copies_16 : List Nat := [107, 27, 46, 79, 132, 1, 1, 167, 255, 235, 42, 42, 180, 0, 67, 42, 180, 0, 221, 46]
theorem ac_cX12_copies_16 : AL cX12_copies 16 kb_cX12_copies_16 := AL.of (m := 20) (by decide +kernel)
theorem dX12_copies_17 : decode cX12_copies 17 = .ok (.iload_n 1, 1) := o27 ac_cX12_copies_16 1 rfl
theorem dX12_copies_18 : decode cX12_copies 18 = .ok (.iaload, 1) := o46 ac_cX12_copies_16 2 rfl
theorem dX12_copies_19 : decode cX12_copies 19 = .ok (.iastore, 1) := o79 ac_cX12_copies_16 3 rfl
theorem dX12_copies_20 : decode cX12_copies 20 = .ok (.iinc 1 1, 3) := o132p ac_cX12_copies_16 4 1 1 rfl rfl
theorem dX12_copies_23 : decode cX12_copies 23 = .ok (.goto (-21), 3) := o167n ac_cX12_copies_16 7 255 235 20 rfl rfl rfl
theorem dX12_copies_26 : decode cX12_copies 26 = .ok (.aload_n 0, 1) := o42 ac_cX12_copies_16 10 rfl
theorem dX12_copies_27 : decode cX12_copies 27 = .ok (.aload_n 0, 1) := o42 ac_cX12_copies_16 11 rfl
theorem dX12_copies_28 : decode cX12_copies 28 = .ok (.getfield 67, 3) := o180 ac_cX12_copies_16 12 0 67 rfl
theorem dX12_copies_31 : decode cX12_copies 31 = .ok (.aload_n 0, 1) := o42 ac_cX12_copies_16 15 rfl
def kb_cX12_copies_32 : List Nat := [180, 0, 221, 46, 181, 1, 49, 42, 3, 181, 1, 52, 177]
theorem ac_cX12_copies_32 : AL cX12_copies 32 kb_cX12_copies_32 := AL.of (m := 13) (by decide +kernel)
theorem dX12_copies_32 : decode cX12_copies 32 = .ok (.getfield 221, 3) := o180 ac_cX12_copies_32 0 0 221 rfl
theorem dX12_copies_35 : decode cX12_copies 35 = .ok (.iaload, 1) := o46 ac_cX12_copies_32 3 rfl
theorem dX12_copies_36 : decode cX12_copies 36 = .ok (.putfield 305, 3) := o181 ac_cX12_copies_32 4 1 49 rfl
theorem dX12_copies_39 : decode cX12_copies 39 = .ok (.aload_n 0, 1) := o42 ac_cX12_copies_32 7 rfl
theorem dX12_copies_40 : decode cX12_copies 40 = .ok (.iconst 0, 1) := o3 ac_cX12_copies_32 8 rfl
theorem dX12_copies_41 : decode cX12_copies 41 = .ok (.putfield 308, 3) := o181 ac_cX12_copies_32 9 1 52 rfl
theorem dX12_copies_44 : decode cX12_copies 44 = .ok (.return_, 1) := o177 ac_cX12_copies_32 12 rfl
def kb_cX12_copiesStill_0 : List Nat := [42, 182, 1, 55, 42, 4, 181, 1, 52, 177]
theorem ac_cX12_copiesStill_0 : AL cX12_copiesStill 0 kb_cX12_copiesStill_0 := AL.of (m := 10) (by decide +kernel)
theorem dX12_copiesStill_0 : decode cX12_copiesStill 0 = .ok (.aload_n 0, 1) := o42 ac_cX12_copiesStill_0 0 rfl
theorem dX12_copiesStill_1 : decode cX12_copiesStill 1 = .ok (.invokevirtual 311, 3) := o182 ac_cX12_copiesStill_0 1 1 55 rfl
theorem dX12_copiesStill_4 : decode cX12_copiesStill 4 = .ok (.aload_n 0, 1) := o42 ac_cX12_copiesStill_0 4 rfl
theorem dX12_copiesStill_5 : decode cX12_copiesStill 5 = .ok (.iconst 1, 1) := o4 ac_cX12_copiesStill_0 5 rfl
theorem dX12_copiesStill_6 : decode cX12_copiesStill 6 = .ok (.putfield 308, 3) := o181 ac_cX12_copiesStill_0 6 1 52 rfl
theorem dX12_copiesStill_9 : decode cX12_copiesStill 9 = .ok (.return_, 1) := o177 ac_cX12_copiesStill_0 9 rfl
def kb_cX12_beatGoes_0 : List Nat := [42, 42, 182, 1, 122, 181, 1, 85, 42, 3, 181, 1, 88, 42, 3, 181, 1, 109, 42, 180]
theorem ac_cX12_beatGoes_0 : AL cX12_beatGoes 0 kb_cX12_beatGoes_0 := AL.of (m := 20) (by decide +kernel)
theorem dX12_beatGoes_0 : decode cX12_beatGoes 0 = .ok (.aload_n 0, 1) := o42 ac_cX12_beatGoes_0 0 rfl
theorem dX12_beatGoes_1 : decode cX12_beatGoes 1 = .ok (.aload_n 0, 1) := o42 ac_cX12_beatGoes_0 1 rfl
theorem dX12_beatGoes_2 : decode cX12_beatGoes 2 = .ok (.invokevirtual 378, 3) := o182 ac_cX12_beatGoes_0 2 1 122 rfl
theorem dX12_beatGoes_5 : decode cX12_beatGoes 5 = .ok (.putfield 341, 3) := o181 ac_cX12_beatGoes_0 5 1 85 rfl
theorem dX12_beatGoes_8 : decode cX12_beatGoes 8 = .ok (.aload_n 0, 1) := o42 ac_cX12_beatGoes_0 8 rfl
theorem dX12_beatGoes_9 : decode cX12_beatGoes 9 = .ok (.iconst 0, 1) := o3 ac_cX12_beatGoes_0 9 rfl
theorem dX12_beatGoes_10 : decode cX12_beatGoes 10 = .ok (.putfield 344, 3) := o181 ac_cX12_beatGoes_0 10 1 88 rfl
theorem dX12_beatGoes_13 : decode cX12_beatGoes 13 = .ok (.aload_n 0, 1) := o42 ac_cX12_beatGoes_0 13 rfl
theorem dX12_beatGoes_14 : decode cX12_beatGoes 14 = .ok (.iconst 0, 1) := o3 ac_cX12_beatGoes_0 14 rfl
theorem dX12_beatGoes_15 : decode cX12_beatGoes 15 = .ok (.putfield 365, 3) := o181 ac_cX12_beatGoes_0 15 1 109 rfl
def kb_cX12_beatGoes_16 : List Nat := [1, 109, 42, 180, 1, 85, 156, 0, 37, 42, 180, 0, 110, 16, 22, 42, 180, 0, 110, 16]
theorem ac_cX12_beatGoes_16 : AL cX12_beatGoes 16 kb_cX12_beatGoes_16 := AL.of (m := 20) (by decide +kernel)
theorem dX12_beatGoes_18 : decode cX12_beatGoes 18 = .ok (.aload_n 0, 1) := o42 ac_cX12_beatGoes_16 2 rfl
theorem dX12_beatGoes_19 : decode cX12_beatGoes 19 = .ok (.getfield 341, 3) := o180 ac_cX12_beatGoes_16 3 1 85 rfl
theorem dX12_beatGoes_22 : decode cX12_beatGoes 22 = .ok (.ifCond .ge 37, 3) := o156p ac_cX12_beatGoes_16 6 0 37 rfl rfl
theorem dX12_beatGoes_25 : decode cX12_beatGoes 25 = .ok (.aload_n 0, 1) := o42 ac_cX12_beatGoes_16 9 rfl
theorem dX12_beatGoes_26 : decode cX12_beatGoes 26 = .ok (.getfield 110, 3) := o180 ac_cX12_beatGoes_16 10 0 110 rfl
theorem dX12_beatGoes_29 : decode cX12_beatGoes 29 = .ok (.bipush 22, 2) := o16p ac_cX12_beatGoes_16 13 22 rfl rfl
theorem dX12_beatGoes_31 : decode cX12_beatGoes 31 = .ok (.aload_n 0, 1) := o42 ac_cX12_beatGoes_16 15 rfl
def kb_cX12_beatGoes_32 : List Nat := [180, 0, 110, 16, 22, 46, 42, 180, 0, 64, 42, 180, 0, 221, 46, 100, 3, 17, 3, 231]
theorem ac_cX12_beatGoes_32 : AL cX12_beatGoes 32 kb_cX12_beatGoes_32 := AL.of (m := 20) (by decide +kernel)
theorem dX12_beatGoes_32 : decode cX12_beatGoes 32 = .ok (.getfield 110, 3) := o180 ac_cX12_beatGoes_32 0 0 110 rfl
theorem dX12_beatGoes_35 : decode cX12_beatGoes 35 = .ok (.bipush 22, 2) := o16p ac_cX12_beatGoes_32 3 22 rfl rfl
theorem dX12_beatGoes_37 : decode cX12_beatGoes 37 = .ok (.iaload, 1) := o46 ac_cX12_beatGoes_32 5 rfl
theorem dX12_beatGoes_38 : decode cX12_beatGoes 38 = .ok (.aload_n 0, 1) := o42 ac_cX12_beatGoes_32 6 rfl
theorem dX12_beatGoes_39 : decode cX12_beatGoes 39 = .ok (.getfield 64, 3) := o180 ac_cX12_beatGoes_32 7 0 64 rfl
theorem dX12_beatGoes_42 : decode cX12_beatGoes 42 = .ok (.aload_n 0, 1) := o42 ac_cX12_beatGoes_32 10 rfl
theorem dX12_beatGoes_43 : decode cX12_beatGoes 43 = .ok (.getfield 221, 3) := o180 ac_cX12_beatGoes_32 11 0 221 rfl
theorem dX12_beatGoes_46 : decode cX12_beatGoes 46 = .ok (.iaload, 1) := o46 ac_cX12_beatGoes_32 14 rfl
theorem dX12_beatGoes_47 : decode cX12_beatGoes 47 = .ok (.isub, 1) := o100 ac_cX12_beatGoes_32 15 rfl
def kb_cX12_beatGoes_48 : List Nat := [3, 17, 3, 231, 184, 1, 82, 79, 167, 0, 15, 42, 182, 1, 125, 42, 42, 180, 1, 85]
theorem ac_cX12_beatGoes_48 : AL cX12_beatGoes 48 kb_cX12_beatGoes_48 := AL.of (m := 20) (by decide +kernel)
theorem dX12_beatGoes_48 : decode cX12_beatGoes 48 = .ok (.iconst 0, 1) := o3 ac_cX12_beatGoes_48 0 rfl
theorem dX12_beatGoes_49 : decode cX12_beatGoes 49 = .ok (.sipush 999, 3) := o17p ac_cX12_beatGoes_48 1 3 231 rfl rfl
theorem dX12_beatGoes_52 : decode cX12_beatGoes 52 = .ok (.invokestatic 338, 3) := o184 ac_cX12_beatGoes_48 4 1 82 rfl
theorem dX12_beatGoes_55 : decode cX12_beatGoes 55 = .ok (.iastore, 1) := o79 ac_cX12_beatGoes_48 7 rfl
theorem dX12_beatGoes_56 : decode cX12_beatGoes 56 = .ok (.goto 15, 3) := o167p ac_cX12_beatGoes_48 8 0 15 rfl rfl
def kb_cX12_beatGoes_64 : List Nat := [42, 180, 1, 85, 182, 1, 128, 3, 60, 27, 42, 180, 0, 43, 42, 180, 0, 221, 46, 162]
theorem ac_cX12_beatGoes_64 : AL cX12_beatGoes 64 kb_cX12_beatGoes_64 := AL.of (m := 20) (by decide +kernel)
theorem dX12_beatGoes_71 : decode cX12_beatGoes 71 = .ok (.iconst 0, 1) := o3 ac_cX12_beatGoes_64 7 rfl
theorem dX12_beatGoes_72 : decode cX12_beatGoes 72 = .ok (.istore_n 1, 1) := o60 ac_cX12_beatGoes_64 8 rfl
theorem dX12_beatGoes_73 : decode cX12_beatGoes 73 = .ok (.iload_n 1, 1) := o27 ac_cX12_beatGoes_64 9 rfl
theorem dX12_beatGoes_74 : decode cX12_beatGoes 74 = .ok (.aload_n 0, 1) := o42 ac_cX12_beatGoes_64 10 rfl
theorem dX12_beatGoes_75 : decode cX12_beatGoes 75 = .ok (.getfield 43, 3) := o180 ac_cX12_beatGoes_64 11 0 43 rfl
theorem dX12_beatGoes_78 : decode cX12_beatGoes 78 = .ok (.aload_n 0, 1) := o42 ac_cX12_beatGoes_64 14 rfl
theorem dX12_beatGoes_79 : decode cX12_beatGoes 79 = .ok (.getfield 221, 3) := o180 ac_cX12_beatGoes_64 15 0 221 rfl
def kb_cX12_beatGoes_80 : List Nat := [0, 221, 46, 162, 0, 31, 42, 180, 0, 110, 27, 46, 154, 0, 16, 42, 180, 0, 110, 16]
theorem ac_cX12_beatGoes_80 : AL cX12_beatGoes 80 kb_cX12_beatGoes_80 := AL.of (m := 20) (by decide +kernel)
theorem dX12_beatGoes_82 : decode cX12_beatGoes 82 = .ok (.iaload, 1) := o46 ac_cX12_beatGoes_80 2 rfl
theorem dX12_beatGoes_83 : decode cX12_beatGoes 83 = .ok (.if_icmp .ge 31, 3) := o162p ac_cX12_beatGoes_80 3 0 31 rfl rfl
def kb_cX12_beatGoes_112 : List Nat := [255, 218, 42, 180, 0, 110, 16, 21, 92, 46, 4, 96, 79, 42, 180, 0, 110, 16, 28, 2]
theorem ac_cX12_beatGoes_112 : AL cX12_beatGoes 112 kb_cX12_beatGoes_112 := AL.of (m := 20) (by decide +kernel)
theorem dX12_beatGoes_114 : decode cX12_beatGoes 114 = .ok (.aload_n 0, 1) := o42 ac_cX12_beatGoes_112 2 rfl
theorem dX12_beatGoes_115 : decode cX12_beatGoes 115 = .ok (.getfield 110, 3) := o180 ac_cX12_beatGoes_112 3 0 110 rfl
theorem dX12_beatGoes_118 : decode cX12_beatGoes 118 = .ok (.bipush 21, 2) := o16p ac_cX12_beatGoes_112 6 21 rfl rfl
theorem dX12_beatGoes_120 : decode cX12_beatGoes 120 = .ok (.dup2, 1) := o92 ac_cX12_beatGoes_112 8 rfl
theorem dX12_beatGoes_121 : decode cX12_beatGoes 121 = .ok (.iaload, 1) := o46 ac_cX12_beatGoes_112 9 rfl
theorem dX12_beatGoes_122 : decode cX12_beatGoes 122 = .ok (.iconst 1, 1) := o4 ac_cX12_beatGoes_112 10 rfl
theorem dX12_beatGoes_123 : decode cX12_beatGoes 123 = .ok (.iadd, 1) := o96 ac_cX12_beatGoes_112 11 rfl
theorem dX12_beatGoes_124 : decode cX12_beatGoes 124 = .ok (.iastore, 1) := o79 ac_cX12_beatGoes_112 12 rfl
theorem dX12_beatGoes_125 : decode cX12_beatGoes 125 = .ok (.aload_n 0, 1) := o42 ac_cX12_beatGoes_112 13 rfl
theorem dX12_beatGoes_126 : decode cX12_beatGoes 126 = .ok (.getfield 110, 3) := o180 ac_cX12_beatGoes_112 14 0 110 rfl
def kb_cX12_beatGoes_128 : List Nat := [110, 16, 28, 2, 79, 177]
theorem ac_cX12_beatGoes_128 : AL cX12_beatGoes 128 kb_cX12_beatGoes_128 := AL.of (m := 6) (by decide +kernel)
theorem dX12_beatGoes_129 : decode cX12_beatGoes 129 = .ok (.bipush 28, 2) := o16p ac_cX12_beatGoes_128 1 28 rfl rfl
theorem dX12_beatGoes_131 : decode cX12_beatGoes 131 = .ok (.iconst (-1), 1) := o2 ac_cX12_beatGoes_128 3 rfl
theorem dX12_beatGoes_132 : decode cX12_beatGoes 132 = .ok (.iastore, 1) := o79 ac_cX12_beatGoes_128 4 rfl
theorem dX12_beatGoes_133 : decode cX12_beatGoes 133 = .ok (.return_, 1) := o177 ac_cX12_beatGoes_128 5 rfl
def kb_cX12_goes_0 : List Nat := [3, 61, 28, 27, 162, 0, 13, 42, 182, 1, 131, 132, 2, 1, 167, 255, 244, 177]
theorem ac_cX12_goes_0 : AL cX12_goes 0 kb_cX12_goes_0 := AL.of (m := 18) (by decide +kernel)
theorem dX12_goes_0 : decode cX12_goes 0 = .ok (.iconst 0, 1) := o3 ac_cX12_goes_0 0 rfl
theorem dX12_goes_1 : decode cX12_goes 1 = .ok (.istore_n 2, 1) := o61 ac_cX12_goes_0 1 rfl
theorem dX12_goes_2 : decode cX12_goes 2 = .ok (.iload_n 2, 1) := o28 ac_cX12_goes_0 2 rfl
theorem dX12_goes_3 : decode cX12_goes 3 = .ok (.iload_n 1, 1) := o27 ac_cX12_goes_0 3 rfl
theorem dX12_goes_4 : decode cX12_goes 4 = .ok (.if_icmp .ge 13, 3) := o162p ac_cX12_goes_0 4 0 13 rfl rfl
theorem dX12_goes_7 : decode cX12_goes 7 = .ok (.aload_n 0, 1) := o42 ac_cX12_goes_0 7 rfl
theorem dX12_goes_8 : decode cX12_goes 8 = .ok (.invokevirtual 387, 3) := o182 ac_cX12_goes_0 8 1 131 rfl
theorem dX12_goes_11 : decode cX12_goes 11 = .ok (.iinc 2 1, 3) := o132p ac_cX12_goes_0 11 2 1 rfl rfl
theorem dX12_goes_14 : decode cX12_goes 14 = .ok (.goto (-12), 3) := o167n ac_cX12_goes_0 14 255 244 11 rfl rfl rfl
def kb_cX12_goes_16 : List Nat := [244, 177]
theorem ac_cX12_goes_16 : AL cX12_goes 16 kb_cX12_goes_16 := AL.of (m := 2) (by decide +kernel)
theorem dX12_goes_17 : decode cX12_goes 17 = .ok (.return_, 1) := o177 ac_cX12_goes_16 1 rfl
def kb_cX12_keepsRow_0 : List Nat := [3, 60, 27, 16, 29, 162, 0, 21, 42, 180, 0, 107, 27, 42, 180, 0, 110, 27, 46, 79]
theorem ac_cX12_keepsRow_0 : AL cX12_keepsRow 0 kb_cX12_keepsRow_0 := AL.of (m := 20) (by decide +kernel)
theorem dX12_keepsRow_0 : decode cX12_keepsRow 0 = .ok (.iconst 0, 1) := o3 ac_cX12_keepsRow_0 0 rfl
theorem dX12_keepsRow_1 : decode cX12_keepsRow 1 = .ok (.istore_n 1, 1) := o60 ac_cX12_keepsRow_0 1 rfl
theorem dX12_keepsRow_2 : decode cX12_keepsRow 2 = .ok (.iload_n 1, 1) := o27 ac_cX12_keepsRow_0 2 rfl
theorem dX12_keepsRow_3 : decode cX12_keepsRow 3 = .ok (.bipush 29, 2) := o16p ac_cX12_keepsRow_0 3 29 rfl rfl
theorem dX12_keepsRow_5 : decode cX12_keepsRow 5 = .ok (.if_icmp .ge 21, 3) := o162p ac_cX12_keepsRow_0 5 0 21 rfl rfl
theorem dX12_keepsRow_8 : decode cX12_keepsRow 8 = .ok (.aload_n 0, 1) := o42 ac_cX12_keepsRow_0 8 rfl
theorem dX12_keepsRow_9 : decode cX12_keepsRow 9 = .ok (.getfield 107, 3) := o180 ac_cX12_keepsRow_0 9 0 107 rfl
theorem dX12_keepsRow_12 : decode cX12_keepsRow 12 = .ok (.iload_n 1, 1) := o27 ac_cX12_keepsRow_0 12 rfl
theorem dX12_keepsRow_13 : decode cX12_keepsRow 13 = .ok (.aload_n 0, 1) := o42 ac_cX12_keepsRow_0 13 rfl
theorem dX12_keepsRow_14 : decode cX12_keepsRow 14 = .ok (.getfield 110, 3) := o180 ac_cX12_keepsRow_0 14 0 110 rfl
def kb_cX12_keepsRow_16 : List Nat := [110, 27, 46, 79, 132, 1, 1, 167, 255, 235, 177]
theorem ac_cX12_keepsRow_16 : AL cX12_keepsRow 16 kb_cX12_keepsRow_16 := AL.of (m := 11) (by decide +kernel)
theorem dX12_keepsRow_17 : decode cX12_keepsRow 17 = .ok (.iload_n 1, 1) := o27 ac_cX12_keepsRow_16 1 rfl
theorem dX12_keepsRow_18 : decode cX12_keepsRow 18 = .ok (.iaload, 1) := o46 ac_cX12_keepsRow_16 2 rfl
theorem dX12_keepsRow_19 : decode cX12_keepsRow 19 = .ok (.iastore, 1) := o79 ac_cX12_keepsRow_16 3 rfl
theorem dX12_keepsRow_20 : decode cX12_keepsRow 20 = .ok (.iinc 1 1, 3) := o132p ac_cX12_keepsRow_16 4 1 1 rfl rfl
theorem dX12_keepsRow_23 : decode cX12_keepsRow 23 = .ok (.goto (-21), 3) := o167n ac_cX12_keepsRow_16 7 255 235 20 rfl rfl rfl
theorem dX12_keepsRow_26 : decode cX12_keepsRow 26 = .ok (.return_, 1) := o177 ac_cX12_keepsRow_16 10 rfl
def kb_cX12_records_0 : List Nat := [42, 180, 0, 239, 16, 40, 160, 0, 43, 3, 60, 27, 17, 4, 107, 162, 0, 24, 42, 180]
theorem ac_cX12_records_0 : AL cX12_records 0 kb_cX12_records_0 := AL.of (m := 20) (by decide +kernel)
theorem dX12_records_0 : decode cX12_records 0 = .ok (.aload_n 0, 1) := o42 ac_cX12_records_0 0 rfl
theorem dX12_records_1 : decode cX12_records 1 = .ok (.getfield 239, 3) := o180 ac_cX12_records_0 1 0 239 rfl
theorem dX12_records_4 : decode cX12_records 4 = .ok (.bipush 40, 2) := o16p ac_cX12_records_0 4 40 rfl rfl
theorem dX12_records_6 : decode cX12_records 6 = .ok (.if_icmp .ne 43, 3) := o160p ac_cX12_records_0 6 0 43 rfl rfl
def kb_cX12_records_48 : List Nat := [239, 3, 60, 27, 16, 29, 162, 0, 29, 42, 180, 0, 113, 16, 29, 42, 180, 0, 239, 104]
theorem ac_cX12_records_48 : AL cX12_records 48 kb_cX12_records_48 := AL.of (m := 20) (by decide +kernel)
theorem dX12_records_49 : decode cX12_records 49 = .ok (.iconst 0, 1) := o3 ac_cX12_records_48 1 rfl
theorem dX12_records_50 : decode cX12_records 50 = .ok (.istore_n 1, 1) := o60 ac_cX12_records_48 2 rfl
theorem dX12_records_51 : decode cX12_records 51 = .ok (.iload_n 1, 1) := o27 ac_cX12_records_48 3 rfl
theorem dX12_records_52 : decode cX12_records 52 = .ok (.bipush 29, 2) := o16p ac_cX12_records_48 4 29 rfl rfl
theorem dX12_records_54 : decode cX12_records 54 = .ok (.if_icmp .ge 29, 3) := o162p ac_cX12_records_48 6 0 29 rfl rfl
theorem dX12_records_57 : decode cX12_records 57 = .ok (.aload_n 0, 1) := o42 ac_cX12_records_48 9 rfl
theorem dX12_records_58 : decode cX12_records 58 = .ok (.getfield 113, 3) := o180 ac_cX12_records_48 10 0 113 rfl
theorem dX12_records_61 : decode cX12_records 61 = .ok (.bipush 29, 2) := o16p ac_cX12_records_48 13 29 rfl rfl
theorem dX12_records_63 : decode cX12_records 63 = .ok (.aload_n 0, 1) := o42 ac_cX12_records_48 15 rfl
def kb_cX12_records_64 : List Nat := [180, 0, 239, 104, 27, 96, 42, 180, 0, 107, 27, 46, 79, 132, 1, 1, 167, 255, 227, 42]
theorem ac_cX12_records_64 : AL cX12_records 64 kb_cX12_records_64 := AL.of (m := 20) (by decide +kernel)
theorem dX12_records_64 : decode cX12_records 64 = .ok (.getfield 239, 3) := o180 ac_cX12_records_64 0 0 239 rfl
theorem dX12_records_67 : decode cX12_records 67 = .ok (.imul, 1) := o104 ac_cX12_records_64 3 rfl
theorem dX12_records_68 : decode cX12_records 68 = .ok (.iload_n 1, 1) := o27 ac_cX12_records_64 4 rfl
theorem dX12_records_69 : decode cX12_records 69 = .ok (.iadd, 1) := o96 ac_cX12_records_64 5 rfl
theorem dX12_records_70 : decode cX12_records 70 = .ok (.aload_n 0, 1) := o42 ac_cX12_records_64 6 rfl
theorem dX12_records_71 : decode cX12_records 71 = .ok (.getfield 107, 3) := o180 ac_cX12_records_64 7 0 107 rfl
theorem dX12_records_74 : decode cX12_records 74 = .ok (.iload_n 1, 1) := o27 ac_cX12_records_64 10 rfl
theorem dX12_records_75 : decode cX12_records 75 = .ok (.iaload, 1) := o46 ac_cX12_records_64 11 rfl
theorem dX12_records_76 : decode cX12_records 76 = .ok (.iastore, 1) := o79 ac_cX12_records_64 12 rfl
theorem dX12_records_77 : decode cX12_records 77 = .ok (.iinc 1 1, 3) := o132p ac_cX12_records_64 13 1 1 rfl rfl
def kb_cX12_records_80 : List Nat := [167, 255, 227, 42, 89, 180, 0, 239, 4, 96, 181, 0, 239, 42, 182, 0, 151, 177]
theorem ac_cX12_records_80 : AL cX12_records 80 kb_cX12_records_80 := AL.of (m := 18) (by decide +kernel)
theorem dX12_records_80 : decode cX12_records 80 = .ok (.goto (-29), 3) := o167n ac_cX12_records_80 0 255 227 28 rfl rfl rfl
theorem dX12_records_83 : decode cX12_records 83 = .ok (.aload_n 0, 1) := o42 ac_cX12_records_80 3 rfl
theorem dX12_records_84 : decode cX12_records 84 = .ok (.dup, 1) := o89 ac_cX12_records_80 4 rfl
theorem dX12_records_85 : decode cX12_records 85 = .ok (.getfield 239, 3) := o180 ac_cX12_records_80 5 0 239 rfl
theorem dX12_records_88 : decode cX12_records 88 = .ok (.iconst 1, 1) := o4 ac_cX12_records_80 8 rfl
theorem dX12_records_89 : decode cX12_records 89 = .ok (.iadd, 1) := o96 ac_cX12_records_80 9 rfl
theorem dX12_records_90 : decode cX12_records 90 = .ok (.putfield 239, 3) := o181 ac_cX12_records_80 10 0 239 rfl
theorem dX12_records_93 : decode cX12_records 93 = .ok (.aload_n 0, 1) := o42 ac_cX12_records_80 13 rfl
theorem dX12_records_94 : decode cX12_records 94 = .ok (.invokevirtual 151, 3) := o182 ac_cX12_records_80 14 0 151 rfl
def kb_cX12_records_96 : List Nat := [151, 177]
theorem ac_cX12_records_96 : AL cX12_records 96 kb_cX12_records_96 := AL.of (m := 2) (by decide +kernel)
theorem dX12_records_97 : decode cX12_records 97 = .ok (.return_, 1) := o177 ac_cX12_records_96 1 rfl
def kb_cX12_thing_0 : List Nat := [42, 27, 182, 1, 134, 154, 0, 5, 2, 172, 28, 170, 0, 0, 0, 104, 0, 0, 0, 0]
theorem ac_cX12_thing_0 : AL cX12_thing 0 kb_cX12_thing_0 := AL.of (m := 20) (by decide +kernel)
theorem dX12_thing_0 : decode cX12_thing 0 = .ok (.aload_n 0, 1) := o42 ac_cX12_thing_0 0 rfl
theorem dX12_thing_1 : decode cX12_thing 1 = .ok (.iload_n 1, 1) := o27 ac_cX12_thing_0 1 rfl
theorem dX12_thing_2 : decode cX12_thing 2 = .ok (.invokevirtual 390, 3) := o182 ac_cX12_thing_0 2 1 134 rfl
theorem dX12_thing_5 : decode cX12_thing 5 = .ok (.ifCond .ne 5, 3) := o154p ac_cX12_thing_0 5 0 5 rfl rfl
theorem dX12_thing_8 : decode cX12_thing 8 = .ok (.iconst (-1), 1) := o2 ac_cX12_thing_0 8 rfl
theorem dX12_thing_9 : decode cX12_thing 9 = .ok (.ireturn, 1) := o172 ac_cX12_thing_0 9 rfl
def kb_cX12_pattern_0 : List Nat := [42, 27, 182, 1, 137, 153, 0, 18, 28, 2, 42, 27, 182, 1, 62, 4, 100, 184, 1, 45]
theorem ac_cX12_pattern_0 : AL cX12_pattern 0 kb_cX12_pattern_0 := AL.of (m := 20) (by decide +kernel)
theorem dX12_pattern_0 : decode cX12_pattern 0 = .ok (.aload_n 0, 1) := o42 ac_cX12_pattern_0 0 rfl
theorem dX12_pattern_1 : decode cX12_pattern 1 = .ok (.iload_n 1, 1) := o27 ac_cX12_pattern_0 1 rfl
theorem dX12_pattern_2 : decode cX12_pattern 2 = .ok (.invokevirtual 393, 3) := o182 ac_cX12_pattern_0 2 1 137 rfl
theorem dX12_pattern_5 : decode cX12_pattern 5 = .ok (.ifCond .eq 18, 3) := o153p ac_cX12_pattern_0 5 0 18 rfl rfl
def kb_cX12_pattern_16 : List Nat := [100, 184, 1, 45, 154, 0, 5, 2, 172, 28, 2, 160, 0, 11, 42, 27, 182, 1, 62, 167]
theorem ac_cX12_pattern_16 : AL cX12_pattern 16 kb_cX12_pattern_16 := AL.of (m := 20) (by decide +kernel)
theorem dX12_pattern_23 : decode cX12_pattern 23 = .ok (.iconst (-1), 1) := o2 ac_cX12_pattern_16 7 rfl
theorem dX12_pattern_24 : decode cX12_pattern 24 = .ok (.ireturn, 1) := o172 ac_cX12_pattern_16 8 rfl
def kb_cX12_tells_0 : List Nat := [42, 27, 182, 1, 134, 153, 0, 27, 29, 3, 6, 184, 1, 45, 153, 0, 18, 29, 5, 162]
theorem ac_cX12_tells_0 : AL cX12_tells 0 kb_cX12_tells_0 := AL.of (m := 20) (by decide +kernel)
theorem dX12_tells_0 : decode cX12_tells 0 = .ok (.aload_n 0, 1) := o42 ac_cX12_tells_0 0 rfl
theorem dX12_tells_1 : decode cX12_tells 1 = .ok (.iload_n 1, 1) := o27 ac_cX12_tells_0 1 rfl
theorem dX12_tells_2 : decode cX12_tells 2 = .ok (.invokevirtual 390, 3) := o182 ac_cX12_tells_0 2 1 134 rfl
theorem dX12_tells_5 : decode cX12_tells 5 = .ok (.ifCond .eq 27, 3) := o153p ac_cX12_tells_0 5 0 27 rfl rfl
def kb_cX12_tells_32 : List Nat := [16, 156, 172, 42, 182, 1, 55, 42, 3, 182, 1, 94, 184, 1, 97, 54, 4, 29, 154, 0]
theorem ac_cX12_tells_32 : AL cX12_tells 32 kb_cX12_tells_32 := AL.of (m := 20) (by decide +kernel)
theorem dX12_tells_32 : decode cX12_tells 32 = .ok (.bipush (-100), 2) := o16n ac_cX12_tells_32 0 156 99 rfl rfl rfl
theorem dX12_tells_34 : decode cX12_tells 34 = .ok (.ireturn, 1) := o172 ac_cX12_tells_32 2 rfl
def kb_cX12_throwIn_0 : List Nat := [42, 27, 182, 1, 134, 153, 0, 22, 42, 180, 0, 107, 27, 46, 153, 0, 13, 28, 3, 16]
theorem ac_cX12_throwIn_0 : AL cX12_throwIn 0 kb_cX12_throwIn_0 := AL.of (m := 20) (by decide +kernel)
theorem dX12_throwIn_0 : decode cX12_throwIn 0 = .ok (.aload_n 0, 1) := o42 ac_cX12_throwIn_0 0 rfl
theorem dX12_throwIn_1 : decode cX12_throwIn 1 = .ok (.iload_n 1, 1) := o27 ac_cX12_throwIn_0 1 rfl
theorem dX12_throwIn_2 : decode cX12_throwIn 2 = .ok (.invokevirtual 390, 3) := o182 ac_cX12_throwIn_0 2 1 134 rfl
theorem dX12_throwIn_5 : decode cX12_throwIn 5 = .ok (.ifCond .eq 22, 3) := o153p ac_cX12_throwIn_0 5 0 22 rfl rfl
def kb_cX12_throwIn_16 : List Nat := [13, 28, 3, 16, 9, 184, 1, 45, 154, 0, 5, 3, 172, 42, 182, 1, 55, 42, 180, 0]
theorem ac_cX12_throwIn_16 : AL cX12_throwIn 16 kb_cX12_throwIn_16 := AL.of (m := 20) (by decide +kernel)
theorem dX12_throwIn_27 : decode cX12_throwIn 27 = .ok (.iconst 0, 1) := o3 ac_cX12_throwIn_16 11 rfl
theorem dX12_throwIn_28 : decode cX12_throwIn 28 = .ok (.ireturn, 1) := o172 ac_cX12_throwIn_16 12 rfl
def kb_cX12_use_0 : List Nat := [42, 27, 182, 1, 137, 154, 0, 5, 3, 172, 42, 182, 1, 55, 42, 27, 182, 1, 143, 42]
theorem ac_cX12_use_0 : AL cX12_use 0 kb_cX12_use_0 := AL.of (m := 20) (by decide +kernel)
theorem dX12_use_0 : decode cX12_use 0 = .ok (.aload_n 0, 1) := o42 ac_cX12_use_0 0 rfl
theorem dX12_use_1 : decode cX12_use 1 = .ok (.iload_n 1, 1) := o27 ac_cX12_use_0 1 rfl
theorem dX12_use_2 : decode cX12_use 2 = .ok (.invokevirtual 393, 3) := o182 ac_cX12_use_0 2 1 137 rfl
theorem dX12_use_5 : decode cX12_use 5 = .ok (.ifCond .ne 5, 3) := o154p ac_cX12_use_0 5 0 5 rfl rfl
theorem dX12_use_8 : decode cX12_use 8 = .ok (.iconst 0, 1) := o3 ac_cX12_use_0 8 rfl
theorem dX12_use_9 : decode cX12_use 9 = .ok (.ireturn, 1) := o172 ac_cX12_use_0 9 rfl
def kb_cX12_closes_0 : List Nat := [42, 27, 182, 1, 137, 153, 0, 24, 28, 3, 4, 184, 1, 45, 153, 0, 15, 42, 27, 182]
theorem ac_cX12_closes_0 : AL cX12_closes 0 kb_cX12_closes_0 := AL.of (m := 20) (by decide +kernel)
theorem dX12_closes_0 : decode cX12_closes 0 = .ok (.aload_n 0, 1) := o42 ac_cX12_closes_0 0 rfl
theorem dX12_closes_1 : decode cX12_closes 1 = .ok (.iload_n 1, 1) := o27 ac_cX12_closes_0 1 rfl
theorem dX12_closes_2 : decode cX12_closes 2 = .ok (.invokevirtual 393, 3) := o182 ac_cX12_closes_0 2 1 137 rfl
theorem dX12_closes_5 : decode cX12_closes 5 = .ok (.ifCond .eq 24, 3) := o153p ac_cX12_closes_0 5 0 24 rfl rfl
def kb_cX12_closes_16 : List Nat := [15, 42, 27, 182, 1, 161, 28, 184, 1, 164, 167, 0, 4, 2, 172]
theorem ac_cX12_closes_16 : AL cX12_closes 16 kb_cX12_closes_16 := AL.of (m := 15) (by decide +kernel)
theorem dX12_closes_29 : decode cX12_closes 29 = .ok (.iconst (-1), 1) := o2 ac_cX12_closes_16 13 rfl
theorem dX12_closes_30 : decode cX12_closes 30 = .ok (.ireturn, 1) := o172 ac_cX12_closes_16 14 rfl
def kb_cX12_joined_0 : List Nat := [42, 27, 182, 1, 137, 153, 0, 20, 42, 28, 182, 1, 137, 153, 0, 12, 29, 3, 4, 184]
theorem ac_cX12_joined_0 : AL cX12_joined 0 kb_cX12_joined_0 := AL.of (m := 20) (by decide +kernel)
theorem dX12_joined_0 : decode cX12_joined 0 = .ok (.aload_n 0, 1) := o42 ac_cX12_joined_0 0 rfl
theorem dX12_joined_1 : decode cX12_joined 1 = .ok (.iload_n 1, 1) := o27 ac_cX12_joined_0 1 rfl
theorem dX12_joined_2 : decode cX12_joined 2 = .ok (.invokevirtual 393, 3) := o182 ac_cX12_joined_0 2 1 137 rfl
theorem dX12_joined_5 : decode cX12_joined 5 = .ok (.ifCond .eq 20, 3) := o153p ac_cX12_joined_0 5 0 20 rfl rfl
def kb_cX12_joined_16 : List Nat := [29, 3, 4, 184, 1, 45, 154, 0, 5, 2, 172, 42, 27, 3, 182, 1, 155, 42, 28, 42]
theorem ac_cX12_joined_16 : AL cX12_joined 16 kb_cX12_joined_16 := AL.of (m := 20) (by decide +kernel)
theorem dX12_joined_25 : decode cX12_joined 25 = .ok (.iconst (-1), 1) := o2 ac_cX12_joined_16 9 rfl
theorem dX12_joined_26 : decode cX12_joined 26 = .ok (.ireturn, 1) := o172 ac_cX12_joined_16 10 rfl
def kb_cX12_turned_0 : List Nat := [42, 27, 182, 1, 137, 153, 0, 11, 42, 28, 182, 1, 137, 154, 0, 5, 2, 172, 42, 27]
theorem ac_cX12_turned_0 : AL cX12_turned 0 kb_cX12_turned_0 := AL.of (m := 20) (by decide +kernel)
theorem dX12_turned_0 : decode cX12_turned 0 = .ok (.aload_n 0, 1) := o42 ac_cX12_turned_0 0 rfl
theorem dX12_turned_1 : decode cX12_turned 1 = .ok (.iload_n 1, 1) := o27 ac_cX12_turned_0 1 rfl
theorem dX12_turned_2 : decode cX12_turned 2 = .ok (.invokevirtual 393, 3) := o182 ac_cX12_turned_0 2 1 137 rfl
theorem dX12_turned_5 : decode cX12_turned 5 = .ok (.ifCond .eq 11, 3) := o153p ac_cX12_turned_0 5 0 11 rfl rfl
def kb_cX12_turned_16 : List Nat := [2, 172, 42, 27, 182, 1, 62, 42, 28, 182, 1, 62, 159, 0, 6, 16, 254, 172, 3, 62]
theorem ac_cX12_turned_16 : AL cX12_turned 16 kb_cX12_turned_16 := AL.of (m := 20) (by decide +kernel)
theorem dX12_turned_16 : decode cX12_turned 16 = .ok (.iconst (-1), 1) := o2 ac_cX12_turned_16 0 rfl
theorem dX12_turned_17 : decode cX12_turned 17 = .ok (.ireturn, 1) := o172 ac_cX12_turned_16 1 rfl
def kb_cX12_span_0 : List Nat := [42, 27, 182, 1, 137, 154, 0, 5, 2, 172, 3, 61, 3, 62, 29, 42, 27, 182, 1, 62]
theorem ac_cX12_span_0 : AL cX12_span 0 kb_cX12_span_0 := AL.of (m := 20) (by decide +kernel)
theorem dX12_span_0 : decode cX12_span 0 = .ok (.aload_n 0, 1) := o42 ac_cX12_span_0 0 rfl
theorem dX12_span_1 : decode cX12_span 1 = .ok (.iload_n 1, 1) := o27 ac_cX12_span_0 1 rfl
theorem dX12_span_2 : decode cX12_span 2 = .ok (.invokevirtual 393, 3) := o182 ac_cX12_span_0 2 1 137 rfl
theorem dX12_span_5 : decode cX12_span 5 = .ok (.ifCond .ne 5, 3) := o154p ac_cX12_span_0 5 0 5 rfl rfl
theorem dX12_span_8 : decode cX12_span 8 = .ok (.iconst (-1), 1) := o2 ac_cX12_span_0 8 rfl
theorem dX12_span_9 : decode cX12_span 9 = .ok (.ireturn, 1) := o172 ac_cX12_span_0 9 rfl
def kb_cX12_orbits_0 : List Nat := [42, 27, 182, 1, 137, 154, 0, 5, 2, 172, 42, 27, 182, 1, 161, 156, 0, 6, 16, 254]
theorem ac_cX12_orbits_0 : AL cX12_orbits 0 kb_cX12_orbits_0 := AL.of (m := 20) (by decide +kernel)
theorem dX12_orbits_0 : decode cX12_orbits 0 = .ok (.aload_n 0, 1) := o42 ac_cX12_orbits_0 0 rfl
theorem dX12_orbits_1 : decode cX12_orbits 1 = .ok (.iload_n 1, 1) := o27 ac_cX12_orbits_0 1 rfl
theorem dX12_orbits_2 : decode cX12_orbits 2 = .ok (.invokevirtual 393, 3) := o182 ac_cX12_orbits_0 2 1 137 rfl
theorem dX12_orbits_5 : decode cX12_orbits 5 = .ok (.ifCond .ne 5, 3) := o154p ac_cX12_orbits_0 5 0 5 rfl rfl
theorem dX12_orbits_8 : decode cX12_orbits 8 = .ok (.iconst (-1), 1) := o2 ac_cX12_orbits_0 8 rfl
theorem dX12_orbits_9 : decode cX12_orbits 9 = .ok (.ireturn, 1) := o172 ac_cX12_orbits_0 9 rfl
def kb_cX12_swaps_0 : List Nat := [42, 27, 182, 1, 137, 154, 0, 5, 2, 172, 3, 61, 3, 62, 29, 42, 27, 182, 1, 62]
theorem ac_cX12_swaps_0 : AL cX12_swaps 0 kb_cX12_swaps_0 := AL.of (m := 20) (by decide +kernel)
theorem dX12_swaps_0 : decode cX12_swaps 0 = .ok (.aload_n 0, 1) := o42 ac_cX12_swaps_0 0 rfl
theorem dX12_swaps_1 : decode cX12_swaps 1 = .ok (.iload_n 1, 1) := o27 ac_cX12_swaps_0 1 rfl
theorem dX12_swaps_2 : decode cX12_swaps 2 = .ok (.invokevirtual 393, 3) := o182 ac_cX12_swaps_0 2 1 137 rfl
theorem dX12_swaps_5 : decode cX12_swaps 5 = .ok (.ifCond .ne 5, 3) := o154p ac_cX12_swaps_0 5 0 5 rfl rfl
theorem dX12_swaps_8 : decode cX12_swaps 8 = .ok (.iconst (-1), 1) := o2 ac_cX12_swaps_0 8 rfl
theorem dX12_swaps_9 : decode cX12_swaps 9 = .ok (.ireturn, 1) := o172 ac_cX12_swaps_0 9 rfl
def kb_cX12_into_0 : List Nat := [42, 27, 182, 1, 137, 153, 0, 16, 42, 27, 182, 1, 161, 155, 0, 8, 28, 2, 162, 0]
theorem ac_cX12_into_0 : AL cX12_into 0 kb_cX12_into_0 := AL.of (m := 20) (by decide +kernel)
theorem dX12_into_0 : decode cX12_into 0 = .ok (.aload_n 0, 1) := o42 ac_cX12_into_0 0 rfl
theorem dX12_into_1 : decode cX12_into 1 = .ok (.iload_n 1, 1) := o27 ac_cX12_into_0 1 rfl
theorem dX12_into_2 : decode cX12_into 2 = .ok (.invokevirtual 393, 3) := o182 ac_cX12_into_0 2 1 137 rfl
theorem dX12_into_5 : decode cX12_into 5 = .ok (.ifCond .eq 16, 3) := o153p ac_cX12_into_0 5 0 16 rfl rfl
def kb_cX12_into_16 : List Nat := [28, 2, 162, 0, 5, 2, 172, 42, 182, 1, 179, 62, 42, 42, 27, 182, 1, 182, 182, 1]
theorem ac_cX12_into_16 : AL cX12_into 16 kb_cX12_into_16 := AL.of (m := 20) (by decide +kernel)
theorem dX12_into_21 : decode cX12_into 21 = .ok (.iconst (-1), 1) := o2 ac_cX12_into_16 5 rfl
theorem dX12_into_22 : decode cX12_into 22 = .ok (.ireturn, 1) := o172 ac_cX12_into_16 6 rfl
def kb_cX12_room_0 : List Nat := [42, 27, 182, 1, 134, 153, 0, 12, 42, 180, 0, 107, 27, 46, 154, 0, 5, 2, 172, 3]
theorem ac_cX12_room_0 : AL cX12_room 0 kb_cX12_room_0 := AL.of (m := 20) (by decide +kernel)
theorem dX12_room_0 : decode cX12_room 0 = .ok (.aload_n 0, 1) := o42 ac_cX12_room_0 0 rfl
theorem dX12_room_1 : decode cX12_room 1 = .ok (.iload_n 1, 1) := o27 ac_cX12_room_0 1 rfl
theorem dX12_room_2 : decode cX12_room 2 = .ok (.invokevirtual 390, 3) := o182 ac_cX12_room_0 2 1 134 rfl
theorem dX12_room_5 : decode cX12_room 5 = .ok (.ifCond .eq 12, 3) := o153p ac_cX12_room_0 5 0 12 rfl rfl
def kb_cX12_room_16 : List Nat := [5, 2, 172, 3, 61, 28, 16, 10, 162, 0, 20, 42, 27, 28, 182, 1, 195, 153, 0, 5]
theorem ac_cX12_room_16 : AL cX12_room 16 kb_cX12_room_16 := AL.of (m := 20) (by decide +kernel)
theorem dX12_room_17 : decode cX12_room 17 = .ok (.iconst (-1), 1) := o2 ac_cX12_room_16 1 rfl
theorem dX12_room_18 : decode cX12_room 18 = .ok (.ireturn, 1) := o172 ac_cX12_room_16 2 rfl
def kb_cX12_place_0 : List Nat := [42, 180, 0, 37, 172]
theorem ac_cX12_place_0 : AL cX12_place 0 kb_cX12_place_0 := AL.of (m := 5) (by decide +kernel)
theorem dX12_place_0 : decode cX12_place 0 = .ok (.aload_n 0, 1) := o42 ac_cX12_place_0 0 rfl
theorem dX12_place_1 : decode cX12_place 1 = .ok (.getfield 37, 3) := o180 ac_cX12_place_0 1 0 37 rfl
theorem dX12_place_4 : decode cX12_place 4 = .ok (.ireturn, 1) := o172 ac_cX12_place_0 4 rfl
def kb_cX12_forget_0 : List Nat := [42, 180, 0, 242, 60, 42, 3, 181, 0, 242, 27, 172]
theorem ac_cX12_forget_0 : AL cX12_forget 0 kb_cX12_forget_0 := AL.of (m := 12) (by decide +kernel)
theorem dX12_forget_0 : decode cX12_forget 0 = .ok (.aload_n 0, 1) := o42 ac_cX12_forget_0 0 rfl
theorem dX12_forget_1 : decode cX12_forget 1 = .ok (.getfield 242, 3) := o180 ac_cX12_forget_0 1 0 242 rfl
theorem dX12_forget_4 : decode cX12_forget 4 = .ok (.istore_n 1, 1) := o60 ac_cX12_forget_0 4 rfl
theorem dX12_forget_5 : decode cX12_forget 5 = .ok (.aload_n 0, 1) := o42 ac_cX12_forget_0 5 rfl
theorem dX12_forget_6 : decode cX12_forget 6 = .ok (.iconst 0, 1) := o3 ac_cX12_forget_0 6 rfl
theorem dX12_forget_7 : decode cX12_forget 7 = .ok (.putfield 242, 3) := o181 ac_cX12_forget_0 7 0 242 rfl
theorem dX12_forget_10 : decode cX12_forget 10 = .ok (.iload_n 1, 1) := o27 ac_cX12_forget_0 10 rfl
theorem dX12_forget_11 : decode cX12_forget 11 = .ok (.ireturn, 1) := o172 ac_cX12_forget_0 11 rfl
def kb_cX12_undo_0 : List Nat := [42, 180, 0, 239, 154, 0, 5, 3, 172, 42, 89, 180, 0, 239, 4, 100, 181, 0, 239, 3]
theorem ac_cX12_undo_0 : AL cX12_undo 0 kb_cX12_undo_0 := AL.of (m := 20) (by decide +kernel)
theorem dX12_undo_0 : decode cX12_undo 0 = .ok (.aload_n 0, 1) := o42 ac_cX12_undo_0 0 rfl
theorem dX12_undo_1 : decode cX12_undo 1 = .ok (.getfield 239, 3) := o180 ac_cX12_undo_0 1 0 239 rfl
theorem dX12_undo_4 : decode cX12_undo 4 = .ok (.ifCond .ne 5, 3) := o154p ac_cX12_undo_0 4 0 5 rfl rfl
theorem dX12_undo_7 : decode cX12_undo 7 = .ok (.iconst 0, 1) := o3 ac_cX12_undo_0 7 rfl
theorem dX12_undo_8 : decode cX12_undo 8 = .ok (.ireturn, 1) := o172 ac_cX12_undo_0 8 rfl
def kb_cX12_lands_0 : List Nat := [42, 182, 1, 55, 3, 60, 3, 61, 28, 16, 10, 162, 0, 23, 42, 28, 182, 1, 170, 158]
theorem ac_cX12_lands_0 : AL cX12_lands 0 kb_cX12_lands_0 := AL.of (m := 20) (by decide +kernel)
theorem dX12_lands_0 : decode cX12_lands 0 = .ok (.aload_n 0, 1) := o42 ac_cX12_lands_0 0 rfl
theorem dX12_lands_1 : decode cX12_lands 1 = .ok (.invokevirtual 311, 3) := o182 ac_cX12_lands_0 1 1 55 rfl
theorem dX12_lands_4 : decode cX12_lands 4 = .ok (.iconst 0, 1) := o3 ac_cX12_lands_0 4 rfl
theorem dX12_lands_5 : decode cX12_lands 5 = .ok (.istore_n 1, 1) := o60 ac_cX12_lands_0 5 rfl
theorem dX12_lands_6 : decode cX12_lands 6 = .ok (.iconst 0, 1) := o3 ac_cX12_lands_0 6 rfl
theorem dX12_lands_7 : decode cX12_lands 7 = .ok (.istore_n 2, 1) := o61 ac_cX12_lands_0 7 rfl
theorem dX12_lands_8 : decode cX12_lands 8 = .ok (.iload_n 2, 1) := o28 ac_cX12_lands_0 8 rfl
theorem dX12_lands_9 : decode cX12_lands 9 = .ok (.bipush 10, 2) := o16p ac_cX12_lands_0 9 10 rfl rfl
theorem dX12_lands_11 : decode cX12_lands 11 = .ok (.if_icmp .ge 23, 3) := o162p ac_cX12_lands_0 11 0 23 rfl rfl
theorem dX12_lands_14 : decode cX12_lands 14 = .ok (.aload_n 0, 1) := o42 ac_cX12_lands_0 14 rfl
theorem dX12_lands_15 : decode cX12_lands 15 = .ok (.iload_n 2, 1) := o28 ac_cX12_lands_0 15 rfl
def kb_cX12_lands_16 : List Nat := [182, 1, 170, 158, 0, 9, 27, 4, 28, 120, 128, 60, 132, 2, 1, 167, 255, 233, 27, 172]
theorem ac_cX12_lands_16 : AL cX12_lands 16 kb_cX12_lands_16 := AL.of (m := 20) (by decide +kernel)
theorem dX12_lands_16 : decode cX12_lands 16 = .ok (.invokevirtual 426, 3) := o182 ac_cX12_lands_16 0 1 170 rfl
theorem dX12_lands_19 : decode cX12_lands 19 = .ok (.ifCond .le 9, 3) := o158p ac_cX12_lands_16 3 0 9 rfl rfl
theorem dX12_lands_28 : decode cX12_lands 28 = .ok (.iinc 2 1, 3) := o132p ac_cX12_lands_16 12 2 1 rfl rfl
theorem dX12_lands_31 : decode cX12_lands 31 = .ok (.goto (-23), 3) := o167n ac_cX12_lands_16 15 255 233 22 rfl rfl rfl
def kb_cX12_lands_32 : List Nat := [255, 233, 27, 172]
theorem ac_cX12_lands_32 : AL cX12_lands 32 kb_cX12_lands_32 := AL.of (m := 4) (by decide +kernel)
theorem dX12_lands_34 : decode cX12_lands 34 = .ok (.iload_n 1, 1) := o27 ac_cX12_lands_32 2 rfl
theorem dX12_lands_35 : decode cX12_lands 35 = .ok (.ireturn, 1) := o172 ac_cX12_lands_32 3 rfl
def kb_cX12_gap_0 : List Nat := [42, 182, 1, 173, 3, 60, 27, 16, 60, 163, 0, 22, 42, 182, 1, 131, 42, 180, 1, 85]
theorem ac_cX12_gap_0 : AL cX12_gap 0 kb_cX12_gap_0 := AL.of (m := 20) (by decide +kernel)
theorem dX12_gap_0 : decode cX12_gap 0 = .ok (.aload_n 0, 1) := o42 ac_cX12_gap_0 0 rfl
theorem dX12_gap_1 : decode cX12_gap 1 = .ok (.invokevirtual 429, 3) := o182 ac_cX12_gap_0 1 1 173 rfl
theorem dX12_gap_4 : decode cX12_gap 4 = .ok (.iconst 0, 1) := o3 ac_cX12_gap_0 4 rfl
theorem dX12_gap_5 : decode cX12_gap 5 = .ok (.istore_n 1, 1) := o60 ac_cX12_gap_0 5 rfl
theorem dX12_gap_6 : decode cX12_gap 6 = .ok (.iload_n 1, 1) := o27 ac_cX12_gap_0 6 rfl
theorem dX12_gap_7 : decode cX12_gap 7 = .ok (.bipush 60, 2) := o16p ac_cX12_gap_0 7 60 rfl rfl
theorem dX12_gap_9 : decode cX12_gap 9 = .ok (.if_icmp .gt 22, 3) := o163p ac_cX12_gap_0 9 0 22 rfl rfl
theorem dX12_gap_12 : decode cX12_gap 12 = .ok (.aload_n 0, 1) := o42 ac_cX12_gap_0 12 rfl
theorem dX12_gap_13 : decode cX12_gap 13 = .ok (.invokevirtual 387, 3) := o182 ac_cX12_gap_0 13 1 131 rfl
def kb_cX12_gap_16 : List Nat := [42, 180, 1, 85, 156, 0, 5, 27, 172, 132, 1, 1, 167, 255, 234, 16, 254, 172]
theorem ac_cX12_gap_16 : AL cX12_gap 16 kb_cX12_gap_16 := AL.of (m := 18) (by decide +kernel)
theorem dX12_gap_16 : decode cX12_gap 16 = .ok (.aload_n 0, 1) := o42 ac_cX12_gap_16 0 rfl
theorem dX12_gap_17 : decode cX12_gap 17 = .ok (.getfield 341, 3) := o180 ac_cX12_gap_16 1 1 85 rfl
theorem dX12_gap_20 : decode cX12_gap 20 = .ok (.ifCond .ge 5, 3) := o156p ac_cX12_gap_16 4 0 5 rfl rfl
theorem dX12_gap_23 : decode cX12_gap 23 = .ok (.iload_n 1, 1) := o27 ac_cX12_gap_16 7 rfl
theorem dX12_gap_24 : decode cX12_gap 24 = .ok (.ireturn, 1) := o172 ac_cX12_gap_16 8 rfl
def kb_cX12_handover_0 : List Nat := [42, 182, 1, 173, 42, 3, 182, 1, 94, 60, 3, 61, 28, 16, 60, 163, 0, 50, 27, 154]
theorem ac_cX12_handover_0 : AL cX12_handover 0 kb_cX12_handover_0 := AL.of (m := 20) (by decide +kernel)
theorem dX12_handover_0 : decode cX12_handover 0 = .ok (.aload_n 0, 1) := o42 ac_cX12_handover_0 0 rfl
theorem dX12_handover_1 : decode cX12_handover 1 = .ok (.invokevirtual 429, 3) := o182 ac_cX12_handover_0 1 1 173 rfl
theorem dX12_handover_4 : decode cX12_handover 4 = .ok (.aload_n 0, 1) := o42 ac_cX12_handover_0 4 rfl
theorem dX12_handover_5 : decode cX12_handover 5 = .ok (.iconst 0, 1) := o3 ac_cX12_handover_0 5 rfl
theorem dX12_handover_6 : decode cX12_handover 6 = .ok (.invokevirtual 350, 3) := o182 ac_cX12_handover_0 6 1 94 rfl
theorem dX12_handover_9 : decode cX12_handover 9 = .ok (.istore_n 1, 1) := o60 ac_cX12_handover_0 9 rfl
theorem dX12_handover_10 : decode cX12_handover 10 = .ok (.iconst 0, 1) := o3 ac_cX12_handover_0 10 rfl
theorem dX12_handover_11 : decode cX12_handover 11 = .ok (.istore_n 2, 1) := o61 ac_cX12_handover_0 11 rfl
theorem dX12_handover_12 : decode cX12_handover 12 = .ok (.iload_n 2, 1) := o28 ac_cX12_handover_0 12 rfl
theorem dX12_handover_13 : decode cX12_handover 13 = .ok (.bipush 60, 2) := o16p ac_cX12_handover_0 13 60 rfl rfl
theorem dX12_handover_15 : decode cX12_handover 15 = .ok (.if_icmp .gt 50, 3) := o163p ac_cX12_handover_0 15 0 50 rfl rfl
def kb_cX12_handover_16 : List Nat := [0, 50, 27, 154, 0, 5, 28, 172, 42, 182, 1, 131, 42, 180, 1, 85, 155, 0, 14, 27]
theorem ac_cX12_handover_16 : AL cX12_handover 16 kb_cX12_handover_16 := AL.of (m := 20) (by decide +kernel)
theorem dX12_handover_18 : decode cX12_handover 18 = .ok (.iload_n 1, 1) := o27 ac_cX12_handover_16 2 rfl
theorem dX12_handover_19 : decode cX12_handover 19 = .ok (.ifCond .ne 5, 3) := o154p ac_cX12_handover_16 3 0 5 rfl rfl
theorem dX12_handover_22 : decode cX12_handover 22 = .ok (.iload_n 2, 1) := o28 ac_cX12_handover_16 6 rfl
theorem dX12_handover_23 : decode cX12_handover 23 = .ok (.ireturn, 1) := o172 ac_cX12_handover_16 7 rfl
def kb_cX12_down_0 : List Nat := [42, 182, 1, 173, 3, 60, 27, 17, 0, 200, 163, 0, 23, 42, 3, 182, 1, 94, 154, 0]
theorem ac_cX12_down_0 : AL cX12_down 0 kb_cX12_down_0 := AL.of (m := 20) (by decide +kernel)
theorem dX12_down_0 : decode cX12_down 0 = .ok (.aload_n 0, 1) := o42 ac_cX12_down_0 0 rfl
theorem dX12_down_1 : decode cX12_down 1 = .ok (.invokevirtual 429, 3) := o182 ac_cX12_down_0 1 1 173 rfl
theorem dX12_down_4 : decode cX12_down 4 = .ok (.iconst 0, 1) := o3 ac_cX12_down_0 4 rfl
theorem dX12_down_5 : decode cX12_down 5 = .ok (.istore_n 1, 1) := o60 ac_cX12_down_0 5 rfl
theorem dX12_down_6 : decode cX12_down 6 = .ok (.iload_n 1, 1) := o27 ac_cX12_down_0 6 rfl
theorem dX12_down_7 : decode cX12_down 7 = .ok (.sipush 200, 3) := o17p ac_cX12_down_0 7 0 200 rfl rfl
theorem dX12_down_10 : decode cX12_down 10 = .ok (.if_icmp .gt 23, 3) := o163p ac_cX12_down_0 10 0 23 rfl rfl
theorem dX12_down_13 : decode cX12_down 13 = .ok (.aload_n 0, 1) := o42 ac_cX12_down_0 13 rfl
theorem dX12_down_14 : decode cX12_down 14 = .ok (.iconst 0, 1) := o3 ac_cX12_down_0 14 rfl
theorem dX12_down_15 : decode cX12_down 15 = .ok (.invokevirtual 350, 3) := o182 ac_cX12_down_0 15 1 94 rfl
def kb_cX12_down_16 : List Nat := [1, 94, 154, 0, 5, 27, 172, 42, 182, 1, 131, 132, 1, 1, 167, 255, 232, 16, 254, 172]
theorem ac_cX12_down_16 : AL cX12_down 16 kb_cX12_down_16 := AL.of (m := 20) (by decide +kernel)
theorem dX12_down_18 : decode cX12_down 18 = .ok (.ifCond .ne 5, 3) := o154p ac_cX12_down_16 2 0 5 rfl rfl
theorem dX12_down_21 : decode cX12_down 21 = .ok (.iload_n 1, 1) := o27 ac_cX12_down_16 5 rfl
theorem dX12_down_22 : decode cX12_down 22 = .ok (.ireturn, 1) := o172 ac_cX12_down_16 6 rfl
def kb_cX12_put_0 : List Nat := [16, 24, 61, 28, 155, 0, 32, 42, 180, 0, 13, 42, 180, 0, 154, 27, 28, 122, 145, 84]
theorem ac_cX12_put_0 : AL cX12_put 0 kb_cX12_put_0 := AL.of (m := 20) (by decide +kernel)
theorem dX12_put_0 : decode cX12_put 0 = .ok (.bipush 24, 2) := o16p ac_cX12_put_0 0 24 rfl rfl
theorem dX12_put_2 : decode cX12_put 2 = .ok (.istore_n 2, 1) := o61 ac_cX12_put_0 2 rfl
theorem dX12_put_3 : decode cX12_put 3 = .ok (.iload_n 2, 1) := o28 ac_cX12_put_0 3 rfl
theorem dX12_put_4 : decode cX12_put 4 = .ok (.ifCond .lt 32, 3) := o155p ac_cX12_put_0 4 0 32 rfl rfl
theorem dX12_put_7 : decode cX12_put 7 = .ok (.aload_n 0, 1) := o42 ac_cX12_put_0 7 rfl
theorem dX12_put_8 : decode cX12_put 8 = .ok (.getfield 13, 3) := o180 ac_cX12_put_0 8 0 13 rfl
theorem dX12_put_11 : decode cX12_put 11 = .ok (.aload_n 0, 1) := o42 ac_cX12_put_0 11 rfl
theorem dX12_put_12 : decode cX12_put 12 = .ok (.getfield 154, 3) := o180 ac_cX12_put_0 12 0 154 rfl
theorem dX12_put_15 : decode cX12_put 15 = .ok (.iload_n 1, 1) := o27 ac_cX12_put_0 15 rfl
def kb_cX12_put_16 : List Nat := [28, 122, 145, 84, 42, 89, 180, 0, 154, 4, 96, 181, 0, 154, 132, 2, 248, 167, 255, 226]
theorem ac_cX12_put_16 : AL cX12_put 16 kb_cX12_put_16 := AL.of (m := 20) (by decide +kernel)
theorem dX12_put_16 : decode cX12_put 16 = .ok (.iload_n 2, 1) := o28 ac_cX12_put_16 0 rfl
theorem dX12_put_17 : decode cX12_put 17 = .ok (.ishr, 1) := o122 ac_cX12_put_16 1 rfl
theorem dX12_put_18 : decode cX12_put 18 = .ok (.i2b, 1) := o145 ac_cX12_put_16 2 rfl
theorem dX12_put_19 : decode cX12_put 19 = .ok (.bastore, 1) := o84 ac_cX12_put_16 3 rfl
theorem dX12_put_20 : decode cX12_put 20 = .ok (.aload_n 0, 1) := o42 ac_cX12_put_16 4 rfl
theorem dX12_put_21 : decode cX12_put 21 = .ok (.dup, 1) := o89 ac_cX12_put_16 5 rfl
theorem dX12_put_22 : decode cX12_put 22 = .ok (.getfield 154, 3) := o180 ac_cX12_put_16 6 0 154 rfl
theorem dX12_put_25 : decode cX12_put 25 = .ok (.iconst 1, 1) := o4 ac_cX12_put_16 9 rfl
theorem dX12_put_26 : decode cX12_put 26 = .ok (.iadd, 1) := o96 ac_cX12_put_16 10 rfl
theorem dX12_put_27 : decode cX12_put 27 = .ok (.putfield 154, 3) := o181 ac_cX12_put_16 11 0 154 rfl
theorem dX12_put_30 : decode cX12_put 30 = .ok (.iinc 2 (-8), 3) := o132n ac_cX12_put_16 14 2 248 7 rfl rfl rfl
def kb_cX12_put_32 : List Nat := [248, 167, 255, 226, 177]
theorem ac_cX12_put_32 : AL cX12_put 32 kb_cX12_put_32 := AL.of (m := 5) (by decide +kernel)
theorem dX12_put_33 : decode cX12_put 33 = .ok (.goto (-30), 3) := o167n ac_cX12_put_32 1 255 226 29 rfl rfl rfl
theorem dX12_put_36 : decode cX12_put 36 = .ok (.return_, 1) := o177 ac_cX12_put_32 4 rfl
def kb_cX12_feed_0 : List Nat := [42, 180, 0, 154, 16, 20, 96, 17, 7, 208, 164, 0, 5, 2, 172, 42, 27, 182, 0, 157]
theorem ac_cX12_feed_0 : AL cX12_feed 0 kb_cX12_feed_0 := AL.of (m := 20) (by decide +kernel)
theorem dX12_feed_0 : decode cX12_feed 0 = .ok (.aload_n 0, 1) := o42 ac_cX12_feed_0 0 rfl
theorem dX12_feed_1 : decode cX12_feed 1 = .ok (.getfield 154, 3) := o180 ac_cX12_feed_0 1 0 154 rfl
theorem dX12_feed_4 : decode cX12_feed 4 = .ok (.bipush 20, 2) := o16p ac_cX12_feed_0 4 20 rfl rfl
theorem dX12_feed_6 : decode cX12_feed 6 = .ok (.iadd, 1) := o96 ac_cX12_feed_0 6 rfl
theorem dX12_feed_7 : decode cX12_feed 7 = .ok (.sipush 2000, 3) := o17p ac_cX12_feed_0 7 7 208 rfl rfl
theorem dX12_feed_10 : decode cX12_feed 10 = .ok (.if_icmp .le 5, 3) := o164p ac_cX12_feed_0 10 0 5 rfl rfl
theorem dX12_feed_15 : decode cX12_feed 15 = .ok (.aload_n 0, 1) := o42 ac_cX12_feed_0 15 rfl
def kb_cX12_feed_16 : List Nat := [27, 182, 0, 157, 42, 28, 182, 0, 157, 42, 29, 182, 0, 157, 42, 21, 4, 182, 0, 157]
theorem ac_cX12_feed_16 : AL cX12_feed 16 kb_cX12_feed_16 := AL.of (m := 20) (by decide +kernel)
theorem dX12_feed_16 : decode cX12_feed 16 = .ok (.iload_n 1, 1) := o27 ac_cX12_feed_16 0 rfl
theorem dX12_feed_17 : decode cX12_feed 17 = .ok (.invokevirtual 157, 3) := o182 ac_cX12_feed_16 1 0 157 rfl
theorem dX12_feed_20 : decode cX12_feed 20 = .ok (.aload_n 0, 1) := o42 ac_cX12_feed_16 4 rfl
theorem dX12_feed_21 : decode cX12_feed 21 = .ok (.iload_n 2, 1) := o28 ac_cX12_feed_16 5 rfl
theorem dX12_feed_22 : decode cX12_feed 22 = .ok (.invokevirtual 157, 3) := o182 ac_cX12_feed_16 6 0 157 rfl
theorem dX12_feed_25 : decode cX12_feed 25 = .ok (.aload_n 0, 1) := o42 ac_cX12_feed_16 9 rfl
theorem dX12_feed_26 : decode cX12_feed 26 = .ok (.iload_n 3, 1) := o29 ac_cX12_feed_16 10 rfl
theorem dX12_feed_27 : decode cX12_feed 27 = .ok (.invokevirtual 157, 3) := o182 ac_cX12_feed_16 11 0 157 rfl
theorem dX12_feed_30 : decode cX12_feed 30 = .ok (.aload_n 0, 1) := o42 ac_cX12_feed_16 14 rfl
theorem dX12_feed_31 : decode cX12_feed 31 = .ok (.iload 4, 2) := o21 ac_cX12_feed_16 15 4 rfl
def kb_cX12_feed_32 : List Nat := [4, 182, 0, 157, 42, 21, 5, 182, 0, 157, 42, 180, 0, 154, 172]
theorem ac_cX12_feed_32 : AL cX12_feed 32 kb_cX12_feed_32 := AL.of (m := 15) (by decide +kernel)
theorem dX12_feed_33 : decode cX12_feed 33 = .ok (.invokevirtual 157, 3) := o182 ac_cX12_feed_32 1 0 157 rfl
theorem dX12_feed_36 : decode cX12_feed 36 = .ok (.aload_n 0, 1) := o42 ac_cX12_feed_32 4 rfl
theorem dX12_feed_37 : decode cX12_feed 37 = .ok (.iload 5, 2) := o21 ac_cX12_feed_32 5 5 rfl
theorem dX12_feed_39 : decode cX12_feed 39 = .ok (.invokevirtual 157, 3) := o182 ac_cX12_feed_32 7 0 157 rfl
theorem dX12_feed_42 : decode cX12_feed 42 = .ok (.aload_n 0, 1) := o42 ac_cX12_feed_32 10 rfl
theorem dX12_feed_43 : decode cX12_feed 43 = .ok (.getfield 154, 3) := o180 ac_cX12_feed_32 11 0 154 rfl
theorem dX12_feed_46 : decode cX12_feed 46 = .ok (.ireturn, 1) := o172 ac_cX12_feed_32 14 rfl
def kb_cX12_back_0 : List Nat := [27, 155, 0, 11, 27, 42, 180, 0, 154, 164, 0, 5, 2, 172, 42, 89, 180, 0, 154, 27]
theorem ac_cX12_back_0 : AL cX12_back 0 kb_cX12_back_0 := AL.of (m := 20) (by decide +kernel)
theorem dX12_back_0 : decode cX12_back 0 = .ok (.iload_n 1, 1) := o27 ac_cX12_back_0 0 rfl
theorem dX12_back_1 : decode cX12_back 1 = .ok (.ifCond .lt 11, 3) := o155p ac_cX12_back_0 1 0 11 rfl rfl
theorem dX12_back_4 : decode cX12_back 4 = .ok (.iload_n 1, 1) := o27 ac_cX12_back_0 4 rfl
theorem dX12_back_5 : decode cX12_back 5 = .ok (.aload_n 0, 1) := o42 ac_cX12_back_0 5 rfl
theorem dX12_back_6 : decode cX12_back 6 = .ok (.getfield 154, 3) := o180 ac_cX12_back_0 6 0 154 rfl
theorem dX12_back_9 : decode cX12_back 9 = .ok (.if_icmp .le 5, 3) := o164p ac_cX12_back_0 9 0 5 rfl rfl
theorem dX12_back_14 : decode cX12_back 14 = .ok (.aload_n 0, 1) := o42 ac_cX12_back_0 14 rfl
theorem dX12_back_15 : decode cX12_back 15 = .ok (.dup, 1) := o89 ac_cX12_back_0 15 rfl
def kb_cX12_back_16 : List Nat := [180, 0, 154, 27, 100, 181, 0, 154, 42, 180, 0, 154, 172]
theorem ac_cX12_back_16 : AL cX12_back 16 kb_cX12_back_16 := AL.of (m := 13) (by decide +kernel)
theorem dX12_back_16 : decode cX12_back 16 = .ok (.getfield 154, 3) := o180 ac_cX12_back_16 0 0 154 rfl
theorem dX12_back_19 : decode cX12_back 19 = .ok (.iload_n 1, 1) := o27 ac_cX12_back_16 3 rfl
theorem dX12_back_20 : decode cX12_back 20 = .ok (.isub, 1) := o100 ac_cX12_back_16 4 rfl
theorem dX12_back_21 : decode cX12_back 21 = .ok (.putfield 154, 3) := o181 ac_cX12_back_16 5 0 154 rfl
theorem dX12_back_24 : decode cX12_back 24 = .ok (.aload_n 0, 1) := o42 ac_cX12_back_16 8 rfl
theorem dX12_back_25 : decode cX12_back 25 = .ok (.getfield 154, 3) := o180 ac_cX12_back_16 9 0 154 rfl
theorem dX12_back_28 : decode cX12_back 28 = .ok (.ireturn, 1) := o172 ac_cX12_back_16 12 rfl
theorem dX12_back_12 : decode cX12_back 12 = .ok (.iconst (-1), 1) := o2 ac_cX12_back_0 12 rfl
theorem dX12_back_13 : decode cX12_back 13 = .ok (.ireturn, 1) := o172 ac_cX12_back_0 13 rfl
def kb_cX12_tell_0 : List Nat := [42, 180, 0, 242, 16, 20, 159, 0, 13, 27, 3, 16, 40, 184, 1, 45, 154, 0, 5, 2]
theorem ac_cX12_tell_0 : AL cX12_tell 0 kb_cX12_tell_0 := AL.of (m := 20) (by decide +kernel)
theorem dX12_tell_0 : decode cX12_tell 0 = .ok (.aload_n 0, 1) := o42 ac_cX12_tell_0 0 rfl
theorem dX12_tell_1 : decode cX12_tell 1 = .ok (.getfield 242, 3) := o180 ac_cX12_tell_0 1 0 242 rfl
theorem dX12_tell_4 : decode cX12_tell 4 = .ok (.bipush 20, 2) := o16p ac_cX12_tell_0 4 20 rfl rfl
theorem dX12_tell_6 : decode cX12_tell 6 = .ok (.if_icmp .eq 13, 3) := o159p ac_cX12_tell_0 6 0 13 rfl rfl
theorem dX12_tell_9 : decode cX12_tell 9 = .ok (.iload_n 1, 1) := o27 ac_cX12_tell_0 9 rfl
theorem dX12_tell_10 : decode cX12_tell 10 = .ok (.iconst 0, 1) := o3 ac_cX12_tell_0 10 rfl
theorem dX12_tell_11 : decode cX12_tell 11 = .ok (.bipush 40, 2) := o16p ac_cX12_tell_0 11 40 rfl rfl
theorem dX12_tell_13 : decode cX12_tell 13 = .ok (.invokestatic 301, 3) := o184 ac_cX12_tell_0 13 1 45 rfl
def kb_cX12_tell_16 : List Nat := [154, 0, 5, 2, 172, 42, 180, 0, 125, 42, 180, 0, 242, 27, 79, 42, 180, 0, 128, 42]
theorem ac_cX12_tell_16 : AL cX12_tell 16 kb_cX12_tell_16 := AL.of (m := 20) (by decide +kernel)
theorem dX12_tell_16 : decode cX12_tell 16 = .ok (.ifCond .ne 5, 3) := o154p ac_cX12_tell_16 0 0 5 rfl rfl
theorem dX12_tell_21 : decode cX12_tell 21 = .ok (.aload_n 0, 1) := o42 ac_cX12_tell_16 5 rfl
theorem dX12_tell_22 : decode cX12_tell 22 = .ok (.getfield 125, 3) := o180 ac_cX12_tell_16 6 0 125 rfl
theorem dX12_tell_25 : decode cX12_tell 25 = .ok (.aload_n 0, 1) := o42 ac_cX12_tell_16 9 rfl
theorem dX12_tell_26 : decode cX12_tell 26 = .ok (.getfield 242, 3) := o180 ac_cX12_tell_16 10 0 242 rfl
theorem dX12_tell_29 : decode cX12_tell 29 = .ok (.iload_n 1, 1) := o27 ac_cX12_tell_16 13 rfl
theorem dX12_tell_30 : decode cX12_tell 30 = .ok (.iastore, 1) := o79 ac_cX12_tell_16 14 rfl
theorem dX12_tell_31 : decode cX12_tell 31 = .ok (.aload_n 0, 1) := o42 ac_cX12_tell_16 15 rfl
def kb_cX12_tell_32 : List Nat := [180, 0, 128, 42, 180, 0, 242, 28, 84, 42, 89, 180, 0, 242, 4, 96, 181, 0, 242, 42]
theorem ac_cX12_tell_32 : AL cX12_tell 32 kb_cX12_tell_32 := AL.of (m := 20) (by decide +kernel)
theorem dX12_tell_32 : decode cX12_tell 32 = .ok (.getfield 128, 3) := o180 ac_cX12_tell_32 0 0 128 rfl
theorem dX12_tell_35 : decode cX12_tell 35 = .ok (.aload_n 0, 1) := o42 ac_cX12_tell_32 3 rfl
theorem dX12_tell_36 : decode cX12_tell 36 = .ok (.getfield 242, 3) := o180 ac_cX12_tell_32 4 0 242 rfl
theorem dX12_tell_39 : decode cX12_tell 39 = .ok (.iload_n 2, 1) := o28 ac_cX12_tell_32 7 rfl
theorem dX12_tell_40 : decode cX12_tell 40 = .ok (.bastore, 1) := o84 ac_cX12_tell_32 8 rfl
theorem dX12_tell_41 : decode cX12_tell 41 = .ok (.aload_n 0, 1) := o42 ac_cX12_tell_32 9 rfl
theorem dX12_tell_42 : decode cX12_tell 42 = .ok (.dup, 1) := o89 ac_cX12_tell_32 10 rfl
theorem dX12_tell_43 : decode cX12_tell 43 = .ok (.getfield 242, 3) := o180 ac_cX12_tell_32 11 0 242 rfl
theorem dX12_tell_46 : decode cX12_tell 46 = .ok (.iconst 1, 1) := o4 ac_cX12_tell_32 14 rfl
theorem dX12_tell_47 : decode cX12_tell 47 = .ok (.iadd, 1) := o96 ac_cX12_tell_32 15 rfl
def kb_cX12_tell_48 : List Nat := [181, 0, 242, 42, 180, 0, 242, 4, 100, 172]
theorem ac_cX12_tell_48 : AL cX12_tell 48 kb_cX12_tell_48 := AL.of (m := 10) (by decide +kernel)
theorem dX12_tell_48 : decode cX12_tell 48 = .ok (.putfield 242, 3) := o181 ac_cX12_tell_48 0 0 242 rfl
theorem dX12_tell_51 : decode cX12_tell 51 = .ok (.aload_n 0, 1) := o42 ac_cX12_tell_48 3 rfl
theorem dX12_tell_52 : decode cX12_tell 52 = .ok (.getfield 242, 3) := o180 ac_cX12_tell_48 4 0 242 rfl
theorem dX12_tell_55 : decode cX12_tell 55 = .ok (.iconst 1, 1) := o4 ac_cX12_tell_48 7 rfl
theorem dX12_tell_56 : decode cX12_tell 56 = .ok (.isub, 1) := o100 ac_cX12_tell_48 8 rfl
theorem dX12_tell_57 : decode cX12_tell 57 = .ok (.ireturn, 1) := o172 ac_cX12_tell_48 9 rfl
theorem dX12_tell_19 : decode cX12_tell 19 = .ok (.iconst (-1), 1) := o2 ac_cX12_tell_16 3 rfl
theorem dX12_tell_20 : decode cX12_tell 20 = .ok (.ireturn, 1) := o172 ac_cX12_tell_16 4 rfl
def kb_cX12_count_0 : List Nat := [42, 182, 1, 55, 27, 170, 0, 0, 0, 0, 0, 244, 0, 0, 0, 0, 0, 0, 0, 17]
theorem ac_cX12_count_0 : AL cX12_count 0 kb_cX12_count_0 := AL.of (m := 20) (by decide +kernel)
theorem dX12_count_0 : decode cX12_count 0 = .ok (.aload_n 0, 1) := o42 ac_cX12_count_0 0 rfl
theorem dX12_count_1 : decode cX12_count 1 = .ok (.invokevirtual 311, 3) := o182 ac_cX12_count_0 1 1 55 rfl
theorem dX12_count_4 : decode cX12_count 4 = .ok (.iload_n 1, 1) := o27 ac_cX12_count_0 4 rfl
theorem dX12_count_5 : decode cX12_count 5 = .ok (.tableswitch 244 0 17 #[87, 97, 107, 115, 123, 129, 135, 135, 135, 145, 153, 158, 163, 168, 173, 218, 228, 238], 87) := by decide +kernel
def kb_cX12_count_80 : List Nat := [0, 0, 0, 218, 0, 0, 0, 228, 0, 0, 0, 238, 42, 180, 0, 43, 42, 180, 0, 221]
theorem ac_cX12_count_80 : AL cX12_count 80 kb_cX12_count_80 := AL.of (m := 20) (by decide +kernel)
theorem dX12_count_92 : decode cX12_count 92 = .ok (.aload_n 0, 1) := o42 ac_cX12_count_80 12 rfl
theorem dX12_count_93 : decode cX12_count 93 = .ok (.getfield 43, 3) := o180 ac_cX12_count_80 13 0 43 rfl
def kb_cX12_count_96 : List Nat := [42, 180, 0, 221, 46, 172, 42, 180, 0, 55, 42, 180, 0, 221, 46, 172, 42, 180, 0, 110]
theorem ac_cX12_count_96 : AL cX12_count 96 kb_cX12_count_96 := AL.of (m := 20) (by decide +kernel)
theorem dX12_count_96 : decode cX12_count 96 = .ok (.aload_n 0, 1) := o42 ac_cX12_count_96 0 rfl
theorem dX12_count_97 : decode cX12_count 97 = .ok (.getfield 221, 3) := o180 ac_cX12_count_96 1 0 221 rfl
theorem dX12_count_100 : decode cX12_count 100 = .ok (.iaload, 1) := o46 ac_cX12_count_96 4 rfl
theorem dX12_count_101 : decode cX12_count 101 = .ok (.ireturn, 1) := o172 ac_cX12_count_96 5 rfl
theorem dX12_count_102 : decode cX12_count 102 = .ok (.aload_n 0, 1) := o42 ac_cX12_count_96 6 rfl
theorem dX12_count_103 : decode cX12_count 103 = .ok (.getfield 55, 3) := o180 ac_cX12_count_96 7 0 55 rfl
theorem dX12_count_106 : decode cX12_count 106 = .ok (.aload_n 0, 1) := o42 ac_cX12_count_96 10 rfl
theorem dX12_count_107 : decode cX12_count 107 = .ok (.getfield 221, 3) := o180 ac_cX12_count_96 11 0 221 rfl
theorem dX12_count_110 : decode cX12_count 110 = .ok (.iaload, 1) := o46 ac_cX12_count_96 14 rfl
theorem dX12_count_111 : decode cX12_count 111 = .ok (.ireturn, 1) := o172 ac_cX12_count_96 15 rfl
def kb_cX12_count_112 : List Nat := [42, 180, 0, 110, 16, 21, 46, 172, 42, 180, 0, 110, 16, 22, 46, 172, 42, 3, 182, 1]
theorem ac_cX12_count_112 : AL cX12_count 112 kb_cX12_count_112 := AL.of (m := 20) (by decide +kernel)
theorem dX12_count_112 : decode cX12_count 112 = .ok (.aload_n 0, 1) := o42 ac_cX12_count_112 0 rfl
theorem dX12_count_113 : decode cX12_count 113 = .ok (.getfield 110, 3) := o180 ac_cX12_count_112 1 0 110 rfl
theorem dX12_count_116 : decode cX12_count 116 = .ok (.bipush 21, 2) := o16p ac_cX12_count_112 4 21 rfl rfl
theorem dX12_count_118 : decode cX12_count 118 = .ok (.iaload, 1) := o46 ac_cX12_count_112 6 rfl
theorem dX12_count_119 : decode cX12_count 119 = .ok (.ireturn, 1) := o172 ac_cX12_count_112 7 rfl
theorem dX12_count_120 : decode cX12_count 120 = .ok (.aload_n 0, 1) := o42 ac_cX12_count_112 8 rfl
theorem dX12_count_121 : decode cX12_count 121 = .ok (.getfield 110, 3) := o180 ac_cX12_count_112 9 0 110 rfl
theorem dX12_count_124 : decode cX12_count 124 = .ok (.bipush 22, 2) := o16p ac_cX12_count_112 12 22 rfl rfl
theorem dX12_count_126 : decode cX12_count 126 = .ok (.iaload, 1) := o46 ac_cX12_count_112 14 rfl
theorem dX12_count_127 : decode cX12_count 127 = .ok (.ireturn, 1) := o172 ac_cX12_count_112 15 rfl
def kb_cX12_count_128 : List Nat := [42, 3, 182, 1, 94, 172, 42, 5, 182, 1, 94, 172, 42, 180, 0, 110, 16, 17, 27, 96]
theorem ac_cX12_count_128 : AL cX12_count 128 kb_cX12_count_128 := AL.of (m := 20) (by decide +kernel)
theorem dX12_count_128 : decode cX12_count 128 = .ok (.aload_n 0, 1) := o42 ac_cX12_count_128 0 rfl
theorem dX12_count_129 : decode cX12_count 129 = .ok (.iconst 0, 1) := o3 ac_cX12_count_128 1 rfl
theorem dX12_count_130 : decode cX12_count 130 = .ok (.invokevirtual 350, 3) := o182 ac_cX12_count_128 2 1 94 rfl
theorem dX12_count_133 : decode cX12_count 133 = .ok (.ireturn, 1) := o172 ac_cX12_count_128 5 rfl
theorem dX12_count_134 : decode cX12_count 134 = .ok (.aload_n 0, 1) := o42 ac_cX12_count_128 6 rfl
theorem dX12_count_135 : decode cX12_count 135 = .ok (.iconst 2, 1) := o5 ac_cX12_count_128 7 rfl
theorem dX12_count_136 : decode cX12_count 136 = .ok (.invokevirtual 350, 3) := o182 ac_cX12_count_128 8 1 94 rfl
theorem dX12_count_139 : decode cX12_count 139 = .ok (.ireturn, 1) := o172 ac_cX12_count_128 11 rfl
theorem dX12_count_140 : decode cX12_count 140 = .ok (.aload_n 0, 1) := o42 ac_cX12_count_128 12 rfl
theorem dX12_count_141 : decode cX12_count 141 = .ok (.getfield 110, 3) := o180 ac_cX12_count_128 13 0 110 rfl
def kb_cX12_count_144 : List Nat := [16, 17, 27, 96, 46, 172, 42, 180, 0, 110, 16, 26, 46, 172, 42, 182, 1, 91, 172, 42]
theorem ac_cX12_count_144 : AL cX12_count 144 kb_cX12_count_144 := AL.of (m := 20) (by decide +kernel)
theorem dX12_count_144 : decode cX12_count 144 = .ok (.bipush 17, 2) := o16p ac_cX12_count_144 0 17 rfl rfl
theorem dX12_count_146 : decode cX12_count 146 = .ok (.iload_n 1, 1) := o27 ac_cX12_count_144 2 rfl
theorem dX12_count_147 : decode cX12_count 147 = .ok (.iadd, 1) := o96 ac_cX12_count_144 3 rfl
theorem dX12_count_148 : decode cX12_count 148 = .ok (.iaload, 1) := o46 ac_cX12_count_144 4 rfl
theorem dX12_count_149 : decode cX12_count 149 = .ok (.ireturn, 1) := o172 ac_cX12_count_144 5 rfl
theorem dX12_count_150 : decode cX12_count 150 = .ok (.aload_n 0, 1) := o42 ac_cX12_count_144 6 rfl
theorem dX12_count_151 : decode cX12_count 151 = .ok (.getfield 110, 3) := o180 ac_cX12_count_144 7 0 110 rfl
theorem dX12_count_154 : decode cX12_count 154 = .ok (.bipush 26, 2) := o16p ac_cX12_count_144 10 26 rfl rfl
theorem dX12_count_156 : decode cX12_count 156 = .ok (.iaload, 1) := o46 ac_cX12_count_144 12 rfl
theorem dX12_count_157 : decode cX12_count 157 = .ok (.ireturn, 1) := o172 ac_cX12_count_144 13 rfl
theorem dX12_count_158 : decode cX12_count 158 = .ok (.aload_n 0, 1) := o42 ac_cX12_count_144 14 rfl
theorem dX12_count_159 : decode cX12_count 159 = .ok (.invokevirtual 347, 3) := o182 ac_cX12_count_144 15 1 91 rfl
def kb_cX12_count_160 : List Nat := [1, 91, 172, 42, 180, 0, 154, 172, 42, 180, 0, 239, 172, 42, 180, 0, 242, 172, 42, 180]
theorem ac_cX12_count_160 : AL cX12_count 160 kb_cX12_count_160 := AL.of (m := 20) (by decide +kernel)
theorem dX12_count_162 : decode cX12_count 162 = .ok (.ireturn, 1) := o172 ac_cX12_count_160 2 rfl
theorem dX12_count_163 : decode cX12_count 163 = .ok (.aload_n 0, 1) := o42 ac_cX12_count_160 3 rfl
theorem dX12_count_164 : decode cX12_count 164 = .ok (.getfield 154, 3) := o180 ac_cX12_count_160 4 0 154 rfl
theorem dX12_count_167 : decode cX12_count 167 = .ok (.ireturn, 1) := o172 ac_cX12_count_160 7 rfl
theorem dX12_count_168 : decode cX12_count 168 = .ok (.aload_n 0, 1) := o42 ac_cX12_count_160 8 rfl
theorem dX12_count_169 : decode cX12_count 169 = .ok (.getfield 239, 3) := o180 ac_cX12_count_160 9 0 239 rfl
theorem dX12_count_172 : decode cX12_count 172 = .ok (.ireturn, 1) := o172 ac_cX12_count_160 12 rfl
theorem dX12_count_173 : decode cX12_count 173 = .ok (.aload_n 0, 1) := o42 ac_cX12_count_160 13 rfl
theorem dX12_count_174 : decode cX12_count 174 = .ok (.getfield 242, 3) := o180 ac_cX12_count_160 14 0 242 rfl
def kb_cX12_count_176 : List Nat := [242, 172, 42, 180, 0, 134, 3, 51, 153, 0, 7, 4, 167, 0, 4, 3, 42, 180, 0, 134]
theorem ac_cX12_count_176 : AL cX12_count 176 kb_cX12_count_176 := AL.of (m := 20) (by decide +kernel)
theorem dX12_count_177 : decode cX12_count 177 = .ok (.ireturn, 1) := o172 ac_cX12_count_176 1 rfl
theorem dX12_count_178 : decode cX12_count 178 = .ok (.aload_n 0, 1) := o42 ac_cX12_count_176 2 rfl
theorem dX12_count_179 : decode cX12_count 179 = .ok (.getfield 134, 3) := o180 ac_cX12_count_176 3 0 134 rfl
theorem dX12_count_182 : decode cX12_count 182 = .ok (.iconst 0, 1) := o3 ac_cX12_count_176 6 rfl
theorem dX12_count_183 : decode cX12_count 183 = .ok (.baload, 1) := o51 ac_cX12_count_176 7 rfl
theorem dX12_count_184 : decode cX12_count 184 = .ok (.ifCond .eq 7, 3) := o153p ac_cX12_count_176 8 0 7 rfl rfl
theorem dX12_count_191 : decode cX12_count 191 = .ok (.iconst 0, 1) := o3 ac_cX12_count_176 15 rfl
def kb_cX12_count_192 : List Nat := [42, 180, 0, 134, 4, 51, 153, 0, 7, 4, 167, 0, 4, 3, 96, 42, 180, 0, 134, 5]
theorem ac_cX12_count_192 : AL cX12_count 192 kb_cX12_count_192 := AL.of (m := 20) (by decide +kernel)
theorem dX12_count_192 : decode cX12_count 192 = .ok (.aload_n 0, 1) := o42 ac_cX12_count_192 0 rfl
theorem dX12_count_193 : decode cX12_count 193 = .ok (.getfield 134, 3) := o180 ac_cX12_count_192 1 0 134 rfl
theorem dX12_count_196 : decode cX12_count 196 = .ok (.iconst 1, 1) := o4 ac_cX12_count_192 4 rfl
theorem dX12_count_197 : decode cX12_count 197 = .ok (.baload, 1) := o51 ac_cX12_count_192 5 rfl
theorem dX12_count_198 : decode cX12_count 198 = .ok (.ifCond .eq 7, 3) := o153p ac_cX12_count_192 6 0 7 rfl rfl
theorem dX12_count_205 : decode cX12_count 205 = .ok (.iconst 0, 1) := o3 ac_cX12_count_192 13 rfl
theorem dX12_count_206 : decode cX12_count 206 = .ok (.iadd, 1) := o96 ac_cX12_count_192 14 rfl
theorem dX12_count_207 : decode cX12_count 207 = .ok (.aload_n 0, 1) := o42 ac_cX12_count_192 15 rfl
def kb_cX12_count_208 : List Nat := [180, 0, 134, 5, 51, 153, 0, 7, 4, 167, 0, 4, 3, 96, 172, 42, 42, 3, 182, 1]
theorem ac_cX12_count_208 : AL cX12_count 208 kb_cX12_count_208 := AL.of (m := 20) (by decide +kernel)
theorem dX12_count_208 : decode cX12_count 208 = .ok (.getfield 134, 3) := o180 ac_cX12_count_208 0 0 134 rfl
theorem dX12_count_211 : decode cX12_count 211 = .ok (.iconst 2, 1) := o5 ac_cX12_count_208 3 rfl
theorem dX12_count_212 : decode cX12_count 212 = .ok (.baload, 1) := o51 ac_cX12_count_208 4 rfl
theorem dX12_count_213 : decode cX12_count 213 = .ok (.ifCond .eq 7, 3) := o153p ac_cX12_count_208 5 0 7 rfl rfl
theorem dX12_count_220 : decode cX12_count 220 = .ok (.iconst 0, 1) := o3 ac_cX12_count_208 12 rfl
theorem dX12_count_221 : decode cX12_count 221 = .ok (.iadd, 1) := o96 ac_cX12_count_208 13 rfl
theorem dX12_count_222 : decode cX12_count 222 = .ok (.ireturn, 1) := o172 ac_cX12_count_208 14 rfl
theorem dX12_count_223 : decode cX12_count 223 = .ok (.aload_n 0, 1) := o42 ac_cX12_count_208 15 rfl
def kb_cX12_count_224 : List Nat := [42, 3, 182, 1, 94, 182, 1, 205, 172, 42, 42, 5, 182, 1, 94, 182, 1, 205, 172, 42]
theorem ac_cX12_count_224 : AL cX12_count 224 kb_cX12_count_224 := AL.of (m := 20) (by decide +kernel)
theorem dX12_count_224 : decode cX12_count 224 = .ok (.aload_n 0, 1) := o42 ac_cX12_count_224 0 rfl
theorem dX12_count_225 : decode cX12_count 225 = .ok (.iconst 0, 1) := o3 ac_cX12_count_224 1 rfl
theorem dX12_count_226 : decode cX12_count 226 = .ok (.invokevirtual 350, 3) := o182 ac_cX12_count_224 2 1 94 rfl
theorem dX12_count_229 : decode cX12_count 229 = .ok (.invokevirtual 461, 3) := o182 ac_cX12_count_224 5 1 205 rfl
theorem dX12_count_232 : decode cX12_count 232 = .ok (.ireturn, 1) := o172 ac_cX12_count_224 8 rfl
theorem dX12_count_233 : decode cX12_count 233 = .ok (.aload_n 0, 1) := o42 ac_cX12_count_224 9 rfl
theorem dX12_count_234 : decode cX12_count 234 = .ok (.aload_n 0, 1) := o42 ac_cX12_count_224 10 rfl
theorem dX12_count_235 : decode cX12_count 235 = .ok (.iconst 2, 1) := o5 ac_cX12_count_224 11 rfl
theorem dX12_count_236 : decode cX12_count 236 = .ok (.invokevirtual 350, 3) := o182 ac_cX12_count_224 12 1 94 rfl
theorem dX12_count_239 : decode cX12_count 239 = .ok (.invokevirtual 461, 3) := o182 ac_cX12_count_224 15 1 205 rfl
def kb_cX12_count_240 : List Nat := [1, 205, 172, 42, 4, 182, 1, 94, 172, 2, 172]
theorem ac_cX12_count_240 : AL cX12_count 240 kb_cX12_count_240 := AL.of (m := 11) (by decide +kernel)
theorem dX12_count_242 : decode cX12_count 242 = .ok (.ireturn, 1) := o172 ac_cX12_count_240 2 rfl
theorem dX12_count_243 : decode cX12_count 243 = .ok (.aload_n 0, 1) := o42 ac_cX12_count_240 3 rfl
theorem dX12_count_244 : decode cX12_count 244 = .ok (.iconst 1, 1) := o4 ac_cX12_count_240 4 rfl
theorem dX12_count_245 : decode cX12_count 245 = .ok (.invokevirtual 350, 3) := o182 ac_cX12_count_240 5 1 94 rfl
theorem dX12_count_248 : decode cX12_count 248 = .ok (.ireturn, 1) := o172 ac_cX12_count_240 8 rfl
theorem dX12_count_249 : decode cX12_count 249 = .ok (.iconst (-1), 1) := o2 ac_cX12_count_240 9 rfl
theorem dX12_count_250 : decode cX12_count 250 = .ok (.ireturn, 1) := o172 ac_cX12_count_240 10 rfl
def kb_cX12_set_0 : List Nat := [27, 3, 16, 9, 184, 1, 45, 153, 0, 14, 42, 180, 0, 107, 16, 28, 46, 27, 160, 0]
theorem ac_cX12_set_0 : AL cX12_set 0 kb_cX12_set_0 := AL.of (m := 20) (by decide +kernel)
theorem dX12_set_0 : decode cX12_set 0 = .ok (.iload_n 1, 1) := o27 ac_cX12_set_0 0 rfl
theorem dX12_set_1 : decode cX12_set 1 = .ok (.iconst 0, 1) := o3 ac_cX12_set_0 1 rfl
theorem dX12_set_2 : decode cX12_set 2 = .ok (.bipush 9, 2) := o16p ac_cX12_set_0 2 9 rfl rfl
theorem dX12_set_4 : decode cX12_set 4 = .ok (.invokestatic 301, 3) := o184 ac_cX12_set_0 4 1 45 rfl
theorem dX12_set_7 : decode cX12_set 7 = .ok (.ifCond .eq 14, 3) := o153p ac_cX12_set_0 7 0 14 rfl rfl
theorem dX12_set_10 : decode cX12_set 10 = .ok (.aload_n 0, 1) := o42 ac_cX12_set_0 10 rfl
theorem dX12_set_11 : decode cX12_set 11 = .ok (.getfield 107, 3) := o180 ac_cX12_set_0 11 0 107 rfl
theorem dX12_set_14 : decode cX12_set 14 = .ok (.bipush 28, 2) := o16p ac_cX12_set_0 14 28 rfl rfl
def kb_cX12_set_16 : List Nat := [46, 27, 160, 0, 5, 3, 172, 42, 182, 1, 55, 42, 180, 0, 110, 16, 28, 27, 79, 42]
theorem ac_cX12_set_16 : AL cX12_set 16 kb_cX12_set_16 := AL.of (m := 20) (by decide +kernel)
theorem dX12_set_16 : decode cX12_set 16 = .ok (.iaload, 1) := o46 ac_cX12_set_16 0 rfl
theorem dX12_set_17 : decode cX12_set 17 = .ok (.iload_n 1, 1) := o27 ac_cX12_set_16 1 rfl
theorem dX12_set_18 : decode cX12_set 18 = .ok (.if_icmp .ne 5, 3) := o160p ac_cX12_set_16 2 0 5 rfl rfl
theorem dX12_set_23 : decode cX12_set 23 = .ok (.aload_n 0, 1) := o42 ac_cX12_set_16 7 rfl
theorem dX12_set_24 : decode cX12_set 24 = .ok (.invokevirtual 311, 3) := o182 ac_cX12_set_16 8 1 55 rfl
theorem dX12_set_27 : decode cX12_set 27 = .ok (.aload_n 0, 1) := o42 ac_cX12_set_16 11 rfl
theorem dX12_set_28 : decode cX12_set 28 = .ok (.getfield 110, 3) := o180 ac_cX12_set_16 12 0 110 rfl
theorem dX12_set_31 : decode cX12_set 31 = .ok (.bipush 28, 2) := o16p ac_cX12_set_16 15 28 rfl rfl
def kb_cX12_set_32 : List Nat := [28, 27, 79, 42, 182, 1, 140, 4, 172]
theorem ac_cX12_set_32 : AL cX12_set 32 kb_cX12_set_32 := AL.of (m := 9) (by decide +kernel)
theorem dX12_set_33 : decode cX12_set 33 = .ok (.iload_n 1, 1) := o27 ac_cX12_set_32 1 rfl
theorem dX12_set_34 : decode cX12_set 34 = .ok (.iastore, 1) := o79 ac_cX12_set_32 2 rfl
theorem dX12_set_35 : decode cX12_set 35 = .ok (.aload_n 0, 1) := o42 ac_cX12_set_32 3 rfl
theorem dX12_set_36 : decode cX12_set 36 = .ok (.invokevirtual 396, 3) := o182 ac_cX12_set_32 4 1 140 rfl
theorem dX12_set_39 : decode cX12_set 39 = .ok (.iconst 1, 1) := o4 ac_cX12_set_32 7 rfl
theorem dX12_set_40 : decode cX12_set 40 = .ok (.ireturn, 1) := o172 ac_cX12_set_32 8 rfl
theorem dX12_set_21 : decode cX12_set 21 = .ok (.iconst 0, 1) := o3 ac_cX12_set_16 5 rfl
theorem dX12_set_22 : decode cX12_set 22 = .ok (.ireturn, 1) := o172 ac_cX12_set_16 6 rfl
def kb_cX12_beats_0 : List Nat := [27, 184, 1, 146, 154, 0, 5, 2, 172, 27, 154, 0, 11, 42, 180, 0, 107, 16, 21, 46]
theorem ac_cX12_beats_0 : AL cX12_beats 0 kb_cX12_beats_0 := AL.of (m := 20) (by decide +kernel)
theorem dX12_beats_0 : decode cX12_beats 0 = .ok (.iload_n 1, 1) := o27 ac_cX12_beats_0 0 rfl
theorem dX12_beats_1 : decode cX12_beats 1 = .ok (.invokestatic 402, 3) := o184 ac_cX12_beats_0 1 1 146 rfl
theorem dX12_beats_4 : decode cX12_beats 4 = .ok (.ifCond .ne 5, 3) := o154p ac_cX12_beats_0 4 0 5 rfl rfl
theorem dX12_beats_9 : decode cX12_beats 9 = .ok (.iload_n 1, 1) := o27 ac_cX12_beats_0 9 rfl
theorem dX12_beats_10 : decode cX12_beats 10 = .ok (.ifCond .ne 11, 3) := o154p ac_cX12_beats_0 10 0 11 rfl rfl
theorem dX12_beats_13 : decode cX12_beats 13 = .ok (.aload_n 0, 1) := o42 ac_cX12_beats_0 13 rfl
theorem dX12_beats_14 : decode cX12_beats 14 = .ok (.getfield 107, 3) := o180 ac_cX12_beats_0 14 0 107 rfl
def kb_cX12_beats_16 : List Nat := [107, 16, 21, 46, 172, 42, 182, 1, 55, 42, 27, 182, 1, 149, 42, 182, 1, 140, 42, 180]
theorem ac_cX12_beats_16 : AL cX12_beats 16 kb_cX12_beats_16 := AL.of (m := 20) (by decide +kernel)
theorem dX12_beats_17 : decode cX12_beats 17 = .ok (.bipush 21, 2) := o16p ac_cX12_beats_16 1 21 rfl rfl
theorem dX12_beats_19 : decode cX12_beats 19 = .ok (.iaload, 1) := o46 ac_cX12_beats_16 3 rfl
theorem dX12_beats_20 : decode cX12_beats 20 = .ok (.ireturn, 1) := o172 ac_cX12_beats_16 4 rfl
theorem dX12_beats_21 : decode cX12_beats 21 = .ok (.aload_n 0, 1) := o42 ac_cX12_beats_16 5 rfl
theorem dX12_beats_22 : decode cX12_beats 22 = .ok (.invokevirtual 311, 3) := o182 ac_cX12_beats_16 6 1 55 rfl
theorem dX12_beats_25 : decode cX12_beats 25 = .ok (.aload_n 0, 1) := o42 ac_cX12_beats_16 9 rfl
theorem dX12_beats_26 : decode cX12_beats 26 = .ok (.iload_n 1, 1) := o27 ac_cX12_beats_16 10 rfl
theorem dX12_beats_27 : decode cX12_beats 27 = .ok (.invokevirtual 405, 3) := o182 ac_cX12_beats_16 11 1 149 rfl
theorem dX12_beats_30 : decode cX12_beats 30 = .ok (.aload_n 0, 1) := o42 ac_cX12_beats_16 14 rfl
theorem dX12_beats_31 : decode cX12_beats 31 = .ok (.invokevirtual 396, 3) := o182 ac_cX12_beats_16 15 1 140 rfl
def kb_cX12_beats_32 : List Nat := [1, 140, 42, 180, 0, 107, 16, 21, 46, 172]
theorem ac_cX12_beats_32 : AL cX12_beats 32 kb_cX12_beats_32 := AL.of (m := 10) (by decide +kernel)
theorem dX12_beats_34 : decode cX12_beats 34 = .ok (.aload_n 0, 1) := o42 ac_cX12_beats_32 2 rfl
theorem dX12_beats_35 : decode cX12_beats 35 = .ok (.getfield 107, 3) := o180 ac_cX12_beats_32 3 0 107 rfl
theorem dX12_beats_38 : decode cX12_beats 38 = .ok (.bipush 21, 2) := o16p ac_cX12_beats_32 6 21 rfl rfl
theorem dX12_beats_40 : decode cX12_beats 40 = .ok (.iaload, 1) := o46 ac_cX12_beats_32 8 rfl
theorem dX12_beats_41 : decode cX12_beats 41 = .ok (.ireturn, 1) := o172 ac_cX12_beats_32 9 rfl
theorem dX12_beats_7 : decode cX12_beats 7 = .ok (.iconst (-1), 1) := o2 ac_cX12_beats_0 7 rfl
theorem dX12_beats_8 : decode cX12_beats 8 = .ok (.ireturn, 1) := o172 ac_cX12_beats_0 8 rfl
def kb_cX12_hold_0 : List Nat := [27, 3, 5, 184, 1, 45, 154, 0, 5, 3, 172, 42, 180, 0, 134, 27, 4, 84, 3, 61]
theorem ac_cX12_hold_0 : AL cX12_hold 0 kb_cX12_hold_0 := AL.of (m := 20) (by decide +kernel)
theorem dX12_hold_0 : decode cX12_hold 0 = .ok (.iload_n 1, 1) := o27 ac_cX12_hold_0 0 rfl
theorem dX12_hold_1 : decode cX12_hold 1 = .ok (.iconst 0, 1) := o3 ac_cX12_hold_0 1 rfl
theorem dX12_hold_2 : decode cX12_hold 2 = .ok (.iconst 2, 1) := o5 ac_cX12_hold_0 2 rfl
theorem dX12_hold_3 : decode cX12_hold 3 = .ok (.invokestatic 301, 3) := o184 ac_cX12_hold_0 3 1 45 rfl
theorem dX12_hold_6 : decode cX12_hold 6 = .ok (.ifCond .ne 5, 3) := o154p ac_cX12_hold_0 6 0 5 rfl rfl
theorem dX12_hold_11 : decode cX12_hold 11 = .ok (.aload_n 0, 1) := o42 ac_cX12_hold_0 11 rfl
theorem dX12_hold_12 : decode cX12_hold 12 = .ok (.getfield 134, 3) := o180 ac_cX12_hold_0 12 0 134 rfl
theorem dX12_hold_15 : decode cX12_hold 15 = .ok (.iload_n 1, 1) := o27 ac_cX12_hold_0 15 rfl
def kb_cX12_hold_16 : List Nat := [4, 84, 3, 61, 28, 16, 29, 162, 0, 26, 42, 180, 0, 137, 16, 29, 27, 104, 28, 96]
theorem ac_cX12_hold_16 : AL cX12_hold 16 kb_cX12_hold_16 := AL.of (m := 20) (by decide +kernel)
theorem dX12_hold_16 : decode cX12_hold 16 = .ok (.iconst 1, 1) := o4 ac_cX12_hold_16 0 rfl
theorem dX12_hold_17 : decode cX12_hold 17 = .ok (.bastore, 1) := o84 ac_cX12_hold_16 1 rfl
theorem dX12_hold_18 : decode cX12_hold 18 = .ok (.iconst 0, 1) := o3 ac_cX12_hold_16 2 rfl
theorem dX12_hold_19 : decode cX12_hold 19 = .ok (.istore_n 2, 1) := o61 ac_cX12_hold_16 3 rfl
theorem dX12_hold_20 : decode cX12_hold 20 = .ok (.iload_n 2, 1) := o28 ac_cX12_hold_16 4 rfl
theorem dX12_hold_21 : decode cX12_hold 21 = .ok (.bipush 29, 2) := o16p ac_cX12_hold_16 5 29 rfl rfl
theorem dX12_hold_23 : decode cX12_hold 23 = .ok (.if_icmp .ge 26, 3) := o162p ac_cX12_hold_16 7 0 26 rfl rfl
theorem dX12_hold_26 : decode cX12_hold 26 = .ok (.aload_n 0, 1) := o42 ac_cX12_hold_16 10 rfl
theorem dX12_hold_27 : decode cX12_hold 27 = .ok (.getfield 137, 3) := o180 ac_cX12_hold_16 11 0 137 rfl
theorem dX12_hold_30 : decode cX12_hold 30 = .ok (.bipush 29, 2) := o16p ac_cX12_hold_16 14 29 rfl rfl
def kb_cX12_hold_32 : List Nat := [27, 104, 28, 96, 42, 180, 0, 107, 28, 46, 79, 132, 2, 1, 167, 255, 230, 4, 172]
theorem ac_cX12_hold_32 : AL cX12_hold 32 kb_cX12_hold_32 := AL.of (m := 19) (by decide +kernel)
theorem dX12_hold_32 : decode cX12_hold 32 = .ok (.iload_n 1, 1) := o27 ac_cX12_hold_32 0 rfl
theorem dX12_hold_33 : decode cX12_hold 33 = .ok (.imul, 1) := o104 ac_cX12_hold_32 1 rfl
theorem dX12_hold_34 : decode cX12_hold 34 = .ok (.iload_n 2, 1) := o28 ac_cX12_hold_32 2 rfl
theorem dX12_hold_35 : decode cX12_hold 35 = .ok (.iadd, 1) := o96 ac_cX12_hold_32 3 rfl
theorem dX12_hold_36 : decode cX12_hold 36 = .ok (.aload_n 0, 1) := o42 ac_cX12_hold_32 4 rfl
theorem dX12_hold_37 : decode cX12_hold 37 = .ok (.getfield 107, 3) := o180 ac_cX12_hold_32 5 0 107 rfl
theorem dX12_hold_40 : decode cX12_hold 40 = .ok (.iload_n 2, 1) := o28 ac_cX12_hold_32 8 rfl
theorem dX12_hold_41 : decode cX12_hold 41 = .ok (.iaload, 1) := o46 ac_cX12_hold_32 9 rfl
theorem dX12_hold_42 : decode cX12_hold 42 = .ok (.iastore, 1) := o79 ac_cX12_hold_32 10 rfl
theorem dX12_hold_43 : decode cX12_hold 43 = .ok (.iinc 2 1, 3) := o132p ac_cX12_hold_32 11 2 1 rfl rfl
theorem dX12_hold_46 : decode cX12_hold 46 = .ok (.goto (-26), 3) := o167n ac_cX12_hold_32 14 255 230 25 rfl rfl rfl
def kb_cX12_hold_48 : List Nat := [230, 4, 172]
theorem ac_cX12_hold_48 : AL cX12_hold 48 kb_cX12_hold_48 := AL.of (m := 3) (by decide +kernel)
theorem dX12_hold_49 : decode cX12_hold 49 = .ok (.iconst 1, 1) := o4 ac_cX12_hold_48 1 rfl
theorem dX12_hold_50 : decode cX12_hold 50 = .ok (.ireturn, 1) := o172 ac_cX12_hold_48 2 rfl
def kb_cX12_restore_0 : List Nat := [27, 3, 5, 184, 1, 45, 153, 0, 12, 42, 180, 0, 134, 27, 51, 154, 0, 5, 3, 172]
theorem ac_cX12_restore_0 : AL cX12_restore 0 kb_cX12_restore_0 := AL.of (m := 20) (by decide +kernel)
theorem dX12_restore_0 : decode cX12_restore 0 = .ok (.iload_n 1, 1) := o27 ac_cX12_restore_0 0 rfl
theorem dX12_restore_1 : decode cX12_restore 1 = .ok (.iconst 0, 1) := o3 ac_cX12_restore_0 1 rfl
theorem dX12_restore_2 : decode cX12_restore 2 = .ok (.iconst 2, 1) := o5 ac_cX12_restore_0 2 rfl
theorem dX12_restore_3 : decode cX12_restore 3 = .ok (.invokestatic 301, 3) := o184 ac_cX12_restore_0 3 1 45 rfl
theorem dX12_restore_6 : decode cX12_restore 6 = .ok (.ifCond .eq 12, 3) := o153p ac_cX12_restore_0 6 0 12 rfl rfl
theorem dX12_restore_9 : decode cX12_restore 9 = .ok (.aload_n 0, 1) := o42 ac_cX12_restore_0 9 rfl
theorem dX12_restore_10 : decode cX12_restore 10 = .ok (.getfield 134, 3) := o180 ac_cX12_restore_0 10 0 134 rfl
theorem dX12_restore_13 : decode cX12_restore 13 = .ok (.iload_n 1, 1) := o27 ac_cX12_restore_0 13 rfl
theorem dX12_restore_14 : decode cX12_restore 14 = .ok (.baload, 1) := o51 ac_cX12_restore_0 14 rfl
theorem dX12_restore_15 : decode cX12_restore 15 = .ok (.ifCond .ne 5, 3) := o154p ac_cX12_restore_0 15 0 5 rfl rfl
def kb_cX12_restore_16 : List Nat := [0, 5, 3, 172, 3, 61, 28, 16, 29, 162, 0, 26, 42, 180, 0, 107, 28, 42, 180, 0]
theorem ac_cX12_restore_16 : AL cX12_restore 16 kb_cX12_restore_16 := AL.of (m := 20) (by decide +kernel)
theorem dX12_restore_18 : decode cX12_restore 18 = .ok (.iconst 0, 1) := o3 ac_cX12_restore_16 2 rfl
theorem dX12_restore_19 : decode cX12_restore 19 = .ok (.ireturn, 1) := o172 ac_cX12_restore_16 3 rfl
theorem dX12_hold_9 : decode cX12_hold 9 = .ok (.iconst 0, 1) := o3 ac_cX12_hold_0 9 rfl
theorem dX12_hold_10 : decode cX12_hold 10 = .ok (.ireturn, 1) := o172 ac_cX12_hold_0 10 rfl
def kb_cX12_inHand_0 : List Nat := [27, 184, 1, 146, 154, 0, 5, 2, 172, 42, 182, 1, 173, 42, 27, 182, 1, 149, 42, 182]
theorem ac_cX12_inHand_0 : AL cX12_inHand 0 kb_cX12_inHand_0 := AL.of (m := 20) (by decide +kernel)
theorem dX12_inHand_0 : decode cX12_inHand 0 = .ok (.iload_n 1, 1) := o27 ac_cX12_inHand_0 0 rfl
theorem dX12_inHand_1 : decode cX12_inHand 1 = .ok (.invokestatic 402, 3) := o184 ac_cX12_inHand_0 1 1 146 rfl
theorem dX12_inHand_4 : decode cX12_inHand 4 = .ok (.ifCond .ne 5, 3) := o154p ac_cX12_inHand_0 4 0 5 rfl rfl
theorem dX12_inHand_9 : decode cX12_inHand 9 = .ok (.aload_n 0, 1) := o42 ac_cX12_inHand_0 9 rfl
theorem dX12_inHand_10 : decode cX12_inHand 10 = .ok (.invokevirtual 429, 3) := o182 ac_cX12_inHand_0 10 1 173 rfl
theorem dX12_inHand_13 : decode cX12_inHand 13 = .ok (.aload_n 0, 1) := o42 ac_cX12_inHand_0 13 rfl
theorem dX12_inHand_14 : decode cX12_inHand 14 = .ok (.iload_n 1, 1) := o27 ac_cX12_inHand_0 14 rfl
theorem dX12_inHand_15 : decode cX12_inHand 15 = .ok (.invokevirtual 405, 3) := o182 ac_cX12_inHand_0 15 1 149 rfl
def kb_cX12_inHand_16 : List Nat := [1, 149, 42, 182, 1, 122, 172]
theorem ac_cX12_inHand_16 : AL cX12_inHand 16 kb_cX12_inHand_16 := AL.of (m := 7) (by decide +kernel)
theorem dX12_inHand_18 : decode cX12_inHand 18 = .ok (.aload_n 0, 1) := o42 ac_cX12_inHand_16 2 rfl
theorem dX12_inHand_19 : decode cX12_inHand 19 = .ok (.invokevirtual 378, 3) := o182 ac_cX12_inHand_16 3 1 122 rfl
theorem dX12_inHand_22 : decode cX12_inHand 22 = .ok (.ireturn, 1) := o172 ac_cX12_inHand_16 6 rfl
theorem dX12_inHand_7 : decode cX12_inHand 7 = .ok (.iconst (-1), 1) := o2 ac_cX12_inHand_0 7 rfl
theorem dX12_inHand_8 : decode cX12_inHand 8 = .ok (.ireturn, 1) := o172 ac_cX12_inHand_0 8 rfl
def kb_cX12_clash_0 : List Nat := [42, 182, 1, 173, 3, 60, 27, 16, 60, 163, 0, 22, 42, 182, 1, 131, 42, 180, 1, 88]
theorem ac_cX12_clash_0 : AL cX12_clash 0 kb_cX12_clash_0 := AL.of (m := 20) (by decide +kernel)
theorem dX12_clash_0 : decode cX12_clash 0 = .ok (.aload_n 0, 1) := o42 ac_cX12_clash_0 0 rfl
theorem dX12_clash_1 : decode cX12_clash 1 = .ok (.invokevirtual 429, 3) := o182 ac_cX12_clash_0 1 1 173 rfl
theorem dX12_clash_4 : decode cX12_clash 4 = .ok (.iconst 0, 1) := o3 ac_cX12_clash_0 4 rfl
theorem dX12_clash_5 : decode cX12_clash 5 = .ok (.istore_n 1, 1) := o60 ac_cX12_clash_0 5 rfl
theorem dX12_clash_6 : decode cX12_clash 6 = .ok (.iload_n 1, 1) := o27 ac_cX12_clash_0 6 rfl
theorem dX12_clash_7 : decode cX12_clash 7 = .ok (.bipush 60, 2) := o16p ac_cX12_clash_0 7 60 rfl rfl
theorem dX12_clash_9 : decode cX12_clash 9 = .ok (.if_icmp .gt 22, 3) := o163p ac_cX12_clash_0 9 0 22 rfl rfl
theorem dX12_clash_12 : decode cX12_clash 12 = .ok (.aload_n 0, 1) := o42 ac_cX12_clash_0 12 rfl
theorem dX12_clash_13 : decode cX12_clash 13 = .ok (.invokevirtual 387, 3) := o182 ac_cX12_clash_0 13 1 131 rfl
def kb_cX12_clash_16 : List Nat := [42, 180, 1, 88, 153, 0, 5, 27, 172, 132, 1, 1, 167, 255, 234, 16, 254, 172]
theorem ac_cX12_clash_16 : AL cX12_clash 16 kb_cX12_clash_16 := AL.of (m := 18) (by decide +kernel)
theorem dX12_clash_16 : decode cX12_clash 16 = .ok (.aload_n 0, 1) := o42 ac_cX12_clash_16 0 rfl
theorem dX12_clash_17 : decode cX12_clash 17 = .ok (.getfield 344, 3) := o180 ac_cX12_clash_16 1 1 88 rfl
theorem dX12_clash_20 : decode cX12_clash 20 = .ok (.ifCond .eq 5, 3) := o153p ac_cX12_clash_16 4 0 5 rfl rfl
theorem dX12_clash_25 : decode cX12_clash 25 = .ok (.iinc 1 1, 3) := o132p ac_cX12_clash_16 9 1 1 rfl rfl
theorem dX12_clash_28 : decode cX12_clash 28 = .ok (.goto (-22), 3) := o167n ac_cX12_clash_16 12 255 234 21 rfl rfl rfl
theorem dX12_clash_31 : decode cX12_clash 31 = .ok (.bipush (-2), 2) := o16n ac_cX12_clash_16 15 254 1 rfl rfl rfl
def kb_cX12_clash_32 : List Nat := [254, 172]
theorem ac_cX12_clash_32 : AL cX12_clash 32 kb_cX12_clash_32 := AL.of (m := 2) (by decide +kernel)
theorem dX12_clash_33 : decode cX12_clash 33 = .ok (.ireturn, 1) := o172 ac_cX12_clash_32 1 rfl
def kb_cX12_limit_0 : List Nat := [27, 3, 17, 3, 231, 184, 1, 45, 154, 0, 5, 2, 172, 42, 182, 1, 173, 3, 61, 28]
theorem ac_cX12_limit_0 : AL cX12_limit 0 kb_cX12_limit_0 := AL.of (m := 20) (by decide +kernel)
theorem dX12_limit_0 : decode cX12_limit 0 = .ok (.iload_n 1, 1) := o27 ac_cX12_limit_0 0 rfl
theorem dX12_limit_1 : decode cX12_limit 1 = .ok (.iconst 0, 1) := o3 ac_cX12_limit_0 1 rfl
theorem dX12_limit_2 : decode cX12_limit 2 = .ok (.sipush 999, 3) := o17p ac_cX12_limit_0 2 3 231 rfl rfl
theorem dX12_limit_5 : decode cX12_limit 5 = .ok (.invokestatic 301, 3) := o184 ac_cX12_limit_0 5 1 45 rfl
theorem dX12_limit_8 : decode cX12_limit 8 = .ok (.ifCond .ne 5, 3) := o154p ac_cX12_limit_0 8 0 5 rfl rfl
theorem dX12_limit_13 : decode cX12_limit 13 = .ok (.aload_n 0, 1) := o42 ac_cX12_limit_0 13 rfl
theorem dX12_limit_14 : decode cX12_limit 14 = .ok (.invokevirtual 429, 3) := o182 ac_cX12_limit_0 14 1 173 rfl
def kb_cX12_limit_16 : List Nat := [173, 3, 61, 28, 17, 0, 200, 163, 0, 26, 42, 180, 0, 110, 16, 22, 46, 27, 161, 0]
theorem ac_cX12_limit_16 : AL cX12_limit 16 kb_cX12_limit_16 := AL.of (m := 20) (by decide +kernel)
theorem dX12_limit_17 : decode cX12_limit 17 = .ok (.iconst 0, 1) := o3 ac_cX12_limit_16 1 rfl
theorem dX12_limit_18 : decode cX12_limit 18 = .ok (.istore_n 2, 1) := o61 ac_cX12_limit_16 2 rfl
theorem dX12_limit_19 : decode cX12_limit 19 = .ok (.iload_n 2, 1) := o28 ac_cX12_limit_16 3 rfl
theorem dX12_limit_20 : decode cX12_limit 20 = .ok (.sipush 200, 3) := o17p ac_cX12_limit_16 4 0 200 rfl rfl
theorem dX12_limit_23 : decode cX12_limit 23 = .ok (.if_icmp .gt 26, 3) := o163p ac_cX12_limit_16 7 0 26 rfl rfl
theorem dX12_limit_26 : decode cX12_limit 26 = .ok (.aload_n 0, 1) := o42 ac_cX12_limit_16 10 rfl
theorem dX12_limit_27 : decode cX12_limit 27 = .ok (.getfield 110, 3) := o180 ac_cX12_limit_16 11 0 110 rfl
theorem dX12_limit_30 : decode cX12_limit 30 = .ok (.bipush 22, 2) := o16p ac_cX12_limit_16 14 22 rfl rfl
def kb_cX12_limit_32 : List Nat := [46, 27, 161, 0, 5, 28, 172, 42, 182, 1, 131, 132, 2, 1, 167, 255, 229, 16, 254, 172]
theorem ac_cX12_limit_32 : AL cX12_limit 32 kb_cX12_limit_32 := AL.of (m := 20) (by decide +kernel)
theorem dX12_limit_32 : decode cX12_limit 32 = .ok (.iaload, 1) := o46 ac_cX12_limit_32 0 rfl
theorem dX12_limit_33 : decode cX12_limit 33 = .ok (.iload_n 1, 1) := o27 ac_cX12_limit_32 1 rfl
theorem dX12_limit_34 : decode cX12_limit 34 = .ok (.if_icmp .lt 5, 3) := o161p ac_cX12_limit_32 2 0 5 rfl rfl
theorem dX12_limit_37 : decode cX12_limit 37 = .ok (.iload_n 2, 1) := o28 ac_cX12_limit_32 5 rfl
theorem dX12_limit_38 : decode cX12_limit 38 = .ok (.ireturn, 1) := o172 ac_cX12_limit_32 6 rfl
theorem dX12_limit_39 : decode cX12_limit 39 = .ok (.aload_n 0, 1) := o42 ac_cX12_limit_32 7 rfl
theorem dX12_limit_40 : decode cX12_limit 40 = .ok (.invokevirtual 387, 3) := o182 ac_cX12_limit_32 8 1 131 rfl
theorem dX12_limit_43 : decode cX12_limit 43 = .ok (.iinc 2 1, 3) := o132p ac_cX12_limit_32 11 2 1 rfl rfl
theorem dX12_limit_46 : decode cX12_limit 46 = .ok (.goto (-27), 3) := o167n ac_cX12_limit_32 14 255 229 26 rfl rfl rfl
def kb_cX12_limit_48 : List Nat := [229, 16, 254, 172]
theorem ac_cX12_limit_48 : AL cX12_limit 48 kb_cX12_limit_48 := AL.of (m := 4) (by decide +kernel)
theorem dX12_limit_49 : decode cX12_limit 49 = .ok (.bipush (-2), 2) := o16n ac_cX12_limit_48 1 254 1 rfl rfl rfl
theorem dX12_limit_51 : decode cX12_limit 51 = .ok (.ireturn, 1) := o172 ac_cX12_limit_48 3 rfl
theorem dX12_limit_11 : decode cX12_limit 11 = .ok (.iconst (-1), 1) := o2 ac_cX12_limit_0 11 rfl
theorem dX12_limit_12 : decode cX12_limit 12 = .ok (.ireturn, 1) := o172 ac_cX12_limit_0 12 rfl
def kb_cX12_busiest_0 : List Nat := [27, 184, 1, 198, 153, 0, 12, 28, 3, 4, 184, 1, 45, 154, 0, 5, 2, 172, 42, 182]
theorem ac_cX12_busiest_0 : AL cX12_busiest 0 kb_cX12_busiest_0 := AL.of (m := 20) (by decide +kernel)
theorem dX12_busiest_0 : decode cX12_busiest 0 = .ok (.iload_n 1, 1) := o27 ac_cX12_busiest_0 0 rfl
theorem dX12_busiest_1 : decode cX12_busiest 1 = .ok (.invokestatic 454, 3) := o184 ac_cX12_busiest_0 1 1 198 rfl
theorem dX12_busiest_4 : decode cX12_busiest 4 = .ok (.ifCond .eq 12, 3) := o153p ac_cX12_busiest_0 4 0 12 rfl rfl
theorem dX12_busiest_7 : decode cX12_busiest 7 = .ok (.iload_n 2, 1) := o28 ac_cX12_busiest_0 7 rfl
theorem dX12_busiest_8 : decode cX12_busiest 8 = .ok (.iconst 0, 1) := o3 ac_cX12_busiest_0 8 rfl
theorem dX12_busiest_9 : decode cX12_busiest 9 = .ok (.iconst 1, 1) := o4 ac_cX12_busiest_0 9 rfl
theorem dX12_busiest_10 : decode cX12_busiest 10 = .ok (.invokestatic 301, 3) := o184 ac_cX12_busiest_0 10 1 45 rfl
theorem dX12_busiest_13 : decode cX12_busiest 13 = .ok (.ifCond .ne 5, 3) := o154p ac_cX12_busiest_0 13 0 5 rfl rfl
def kb_cX12_busiest_16 : List Nat := [2, 172, 42, 182, 1, 173, 3, 62, 29, 16, 7, 162, 0, 16, 42, 180, 0, 122, 29, 3]
theorem ac_cX12_busiest_16 : AL cX12_busiest 16 kb_cX12_busiest_16 := AL.of (m := 20) (by decide +kernel)
theorem dX12_busiest_18 : decode cX12_busiest 18 = .ok (.aload_n 0, 1) := o42 ac_cX12_busiest_16 2 rfl
theorem dX12_busiest_19 : decode cX12_busiest 19 = .ok (.invokevirtual 429, 3) := o182 ac_cX12_busiest_16 3 1 173 rfl
theorem dX12_busiest_22 : decode cX12_busiest 22 = .ok (.iconst 0, 1) := o3 ac_cX12_busiest_16 6 rfl
theorem dX12_busiest_23 : decode cX12_busiest 23 = .ok (.istore_n 3, 1) := o62 ac_cX12_busiest_16 7 rfl
theorem dX12_busiest_24 : decode cX12_busiest 24 = .ok (.iload_n 3, 1) := o29 ac_cX12_busiest_16 8 rfl
theorem dX12_busiest_25 : decode cX12_busiest 25 = .ok (.bipush 7, 2) := o16p ac_cX12_busiest_16 9 7 rfl rfl
theorem dX12_busiest_27 : decode cX12_busiest 27 = .ok (.if_icmp .ge 16, 3) := o162p ac_cX12_busiest_16 11 0 16 rfl rfl
theorem dX12_busiest_30 : decode cX12_busiest 30 = .ok (.aload_n 0, 1) := o42 ac_cX12_busiest_16 14 rfl
theorem dX12_busiest_31 : decode cX12_busiest 31 = .ok (.getfield 122, 3) := o180 ac_cX12_busiest_16 15 0 122 rfl
def kb_cX12_busiest_32 : List Nat := [0, 122, 29, 3, 79, 132, 3, 1, 167, 255, 240, 3, 62, 29, 27, 162, 0, 33, 42, 182]
theorem ac_cX12_busiest_32 : AL cX12_busiest 32 kb_cX12_busiest_32 := AL.of (m := 20) (by decide +kernel)
theorem dX12_busiest_34 : decode cX12_busiest 34 = .ok (.iload_n 3, 1) := o29 ac_cX12_busiest_32 2 rfl
theorem dX12_busiest_35 : decode cX12_busiest 35 = .ok (.iconst 0, 1) := o3 ac_cX12_busiest_32 3 rfl
theorem dX12_busiest_36 : decode cX12_busiest 36 = .ok (.iastore, 1) := o79 ac_cX12_busiest_32 4 rfl
theorem dX12_busiest_37 : decode cX12_busiest 37 = .ok (.iinc 3 1, 3) := o132p ac_cX12_busiest_32 5 3 1 rfl rfl
theorem dX12_busiest_40 : decode cX12_busiest 40 = .ok (.goto (-16), 3) := o167n ac_cX12_busiest_32 8 255 240 15 rfl rfl rfl
theorem dX12_busiest_43 : decode cX12_busiest 43 = .ok (.iconst 0, 1) := o3 ac_cX12_busiest_32 11 rfl
theorem dX12_busiest_44 : decode cX12_busiest 44 = .ok (.istore_n 3, 1) := o62 ac_cX12_busiest_32 12 rfl
theorem dX12_busiest_45 : decode cX12_busiest 45 = .ok (.iload_n 3, 1) := o29 ac_cX12_busiest_32 13 rfl
theorem dX12_busiest_46 : decode cX12_busiest 46 = .ok (.iload_n 1, 1) := o27 ac_cX12_busiest_32 14 rfl
theorem dX12_busiest_47 : decode cX12_busiest 47 = .ok (.if_icmp .ge 33, 3) := o162p ac_cX12_busiest_32 15 0 33 rfl rfl
def kb_cX12_busiest_48 : List Nat := [0, 33, 42, 182, 1, 131, 42, 180, 1, 85, 155, 0, 16, 42, 180, 0, 122, 42, 180, 1]
theorem ac_cX12_busiest_48 : AL cX12_busiest 48 kb_cX12_busiest_48 := AL.of (m := 20) (by decide +kernel)
theorem dX12_busiest_50 : decode cX12_busiest 50 = .ok (.aload_n 0, 1) := o42 ac_cX12_busiest_48 2 rfl
theorem dX12_busiest_51 : decode cX12_busiest 51 = .ok (.invokevirtual 387, 3) := o182 ac_cX12_busiest_48 3 1 131 rfl
theorem dX12_busiest_54 : decode cX12_busiest 54 = .ok (.aload_n 0, 1) := o42 ac_cX12_busiest_48 6 rfl
theorem dX12_busiest_55 : decode cX12_busiest 55 = .ok (.getfield 341, 3) := o180 ac_cX12_busiest_48 7 1 85 rfl
theorem dX12_busiest_58 : decode cX12_busiest 58 = .ok (.ifCond .lt 16, 3) := o155p ac_cX12_busiest_48 10 0 16 rfl rfl
def kb_cX12_busiest_64 : List Nat := [122, 42, 180, 1, 85, 92, 46, 4, 96, 79, 132, 3, 1, 167, 255, 224, 3, 62, 4, 54]
theorem ac_cX12_busiest_64 : AL cX12_busiest 64 kb_cX12_busiest_64 := AL.of (m := 20) (by decide +kernel)
theorem dX12_busiest_74 : decode cX12_busiest 74 = .ok (.iinc 3 1, 3) := o132p ac_cX12_busiest_64 10 3 1 rfl rfl
theorem dX12_busiest_77 : decode cX12_busiest 77 = .ok (.goto (-32), 3) := o167n ac_cX12_busiest_64 13 255 224 31 rfl rfl rfl
def kb_cX12_busiest_80 : List Nat := [3, 62, 4, 54, 4, 21, 4, 16, 7, 162, 0, 28, 42, 180, 0, 122, 21, 4, 46, 42]
theorem ac_cX12_busiest_80 : AL cX12_busiest 80 kb_cX12_busiest_80 := AL.of (m := 20) (by decide +kernel)
theorem dX12_busiest_80 : decode cX12_busiest 80 = .ok (.iconst 0, 1) := o3 ac_cX12_busiest_80 0 rfl
theorem dX12_busiest_81 : decode cX12_busiest 81 = .ok (.istore_n 3, 1) := o62 ac_cX12_busiest_80 1 rfl
theorem dX12_busiest_82 : decode cX12_busiest 82 = .ok (.iconst 1, 1) := o4 ac_cX12_busiest_80 2 rfl
theorem dX12_busiest_83 : decode cX12_busiest 83 = .ok (.istore 4, 2) := o54 ac_cX12_busiest_80 3 4 rfl
theorem dX12_busiest_85 : decode cX12_busiest 85 = .ok (.iload 4, 2) := o21 ac_cX12_busiest_80 5 4 rfl
theorem dX12_busiest_87 : decode cX12_busiest 87 = .ok (.bipush 7, 2) := o16p ac_cX12_busiest_80 7 7 rfl rfl
theorem dX12_busiest_89 : decode cX12_busiest 89 = .ok (.if_icmp .ge 28, 3) := o162p ac_cX12_busiest_80 9 0 28 rfl rfl
theorem dX12_busiest_92 : decode cX12_busiest 92 = .ok (.aload_n 0, 1) := o42 ac_cX12_busiest_80 12 rfl
theorem dX12_busiest_93 : decode cX12_busiest 93 = .ok (.getfield 122, 3) := o180 ac_cX12_busiest_80 13 0 122 rfl
def kb_cX12_busiest_96 : List Nat := [21, 4, 46, 42, 180, 0, 122, 29, 46, 164, 0, 6, 21, 4, 62, 132, 4, 1, 167, 255]
theorem ac_cX12_busiest_96 : AL cX12_busiest 96 kb_cX12_busiest_96 := AL.of (m := 20) (by decide +kernel)
theorem dX12_busiest_96 : decode cX12_busiest 96 = .ok (.iload 4, 2) := o21 ac_cX12_busiest_96 0 4 rfl
theorem dX12_busiest_98 : decode cX12_busiest 98 = .ok (.iaload, 1) := o46 ac_cX12_busiest_96 2 rfl
theorem dX12_busiest_99 : decode cX12_busiest 99 = .ok (.aload_n 0, 1) := o42 ac_cX12_busiest_96 3 rfl
theorem dX12_busiest_100 : decode cX12_busiest 100 = .ok (.getfield 122, 3) := o180 ac_cX12_busiest_96 4 0 122 rfl
theorem dX12_busiest_103 : decode cX12_busiest 103 = .ok (.iload_n 3, 1) := o29 ac_cX12_busiest_96 7 rfl
theorem dX12_busiest_104 : decode cX12_busiest 104 = .ok (.iaload, 1) := o46 ac_cX12_busiest_96 8 rfl
theorem dX12_busiest_105 : decode cX12_busiest 105 = .ok (.if_icmp .le 6, 3) := o164p ac_cX12_busiest_96 9 0 6 rfl rfl
theorem dX12_busiest_111 : decode cX12_busiest 111 = .ok (.iinc 4 1, 3) := o132p ac_cX12_busiest_96 15 4 1 rfl rfl
def kb_cX12_busiest_112 : List Nat := [4, 1, 167, 255, 227, 42, 180, 0, 122, 29, 46, 154, 0, 8, 16, 254, 167, 0, 17, 28]
theorem ac_cX12_busiest_112 : AL cX12_busiest 112 kb_cX12_busiest_112 := AL.of (m := 20) (by decide +kernel)
theorem dX12_busiest_114 : decode cX12_busiest 114 = .ok (.goto (-29), 3) := o167n ac_cX12_busiest_112 2 255 227 28 rfl rfl rfl
theorem dX12_busiest_117 : decode cX12_busiest 117 = .ok (.aload_n 0, 1) := o42 ac_cX12_busiest_112 5 rfl
theorem dX12_busiest_118 : decode cX12_busiest 118 = .ok (.getfield 122, 3) := o180 ac_cX12_busiest_112 6 0 122 rfl
theorem dX12_busiest_121 : decode cX12_busiest 121 = .ok (.iload_n 3, 1) := o29 ac_cX12_busiest_112 9 rfl
theorem dX12_busiest_122 : decode cX12_busiest 122 = .ok (.iaload, 1) := o46 ac_cX12_busiest_112 10 rfl
theorem dX12_busiest_123 : decode cX12_busiest 123 = .ok (.ifCond .ne 8, 3) := o154p ac_cX12_busiest_112 11 0 8 rfl rfl
theorem dX12_busiest_126 : decode cX12_busiest 126 = .ok (.bipush (-2), 2) := o16n ac_cX12_busiest_112 14 254 1 rfl rfl rfl
def kb_cX12_busiest_128 : List Nat := [167, 0, 17, 28, 154, 0, 7, 29, 167, 0, 9, 42, 180, 0, 122, 29, 46, 172]
theorem ac_cX12_busiest_128 : AL cX12_busiest 128 kb_cX12_busiest_128 := AL.of (m := 18) (by decide +kernel)
theorem dX12_busiest_128 : decode cX12_busiest 128 = .ok (.goto 17, 3) := o167p ac_cX12_busiest_128 0 0 17 rfl rfl
def kb_cX12_busiest_144 : List Nat := [46, 172]
theorem ac_cX12_busiest_144 : AL cX12_busiest 144 kb_cX12_busiest_144 := AL.of (m := 2) (by decide +kernel)
theorem dX12_busiest_145 : decode cX12_busiest 145 = .ok (.ireturn, 1) := o172 ac_cX12_busiest_144 1 rfl
theorem dX12_busiest_16 : decode cX12_busiest 16 = .ok (.iconst (-1), 1) := o2 ac_cX12_busiest_16 0 rfl
theorem dX12_busiest_17 : decode cX12_busiest 17 = .ok (.ireturn, 1) := o172 ac_cX12_busiest_16 1 rfl
def kb_cX12_load_0 : List Nat := [27, 184, 1, 198, 154, 0, 5, 2, 172, 42, 182, 1, 173, 3, 61, 3, 62, 29, 27, 162]
theorem ac_cX12_load_0 : AL cX12_load 0 kb_cX12_load_0 := AL.of (m := 20) (by decide +kernel)
theorem dX12_load_0 : decode cX12_load 0 = .ok (.iload_n 1, 1) := o27 ac_cX12_load_0 0 rfl
theorem dX12_load_1 : decode cX12_load 1 = .ok (.invokestatic 454, 3) := o184 ac_cX12_load_0 1 1 198 rfl
theorem dX12_load_4 : decode cX12_load 4 = .ok (.ifCond .ne 5, 3) := o154p ac_cX12_load_0 4 0 5 rfl rfl
theorem dX12_load_9 : decode cX12_load 9 = .ok (.aload_n 0, 1) := o42 ac_cX12_load_0 9 rfl
theorem dX12_load_10 : decode cX12_load 10 = .ok (.invokevirtual 429, 3) := o182 ac_cX12_load_0 10 1 173 rfl
theorem dX12_load_13 : decode cX12_load 13 = .ok (.iconst 0, 1) := o3 ac_cX12_load_0 13 rfl
theorem dX12_load_14 : decode cX12_load 14 = .ok (.istore_n 2, 1) := o61 ac_cX12_load_0 14 rfl
theorem dX12_load_15 : decode cX12_load 15 = .ok (.iconst 0, 1) := o3 ac_cX12_load_0 15 rfl
def kb_cX12_load_16 : List Nat := [62, 29, 27, 162, 0, 40, 42, 182, 1, 131, 42, 180, 1, 85, 155, 0, 23, 28, 42, 180]
theorem ac_cX12_load_16 : AL cX12_load 16 kb_cX12_load_16 := AL.of (m := 20) (by decide +kernel)
theorem dX12_load_16 : decode cX12_load 16 = .ok (.istore_n 3, 1) := o62 ac_cX12_load_16 0 rfl
theorem dX12_load_17 : decode cX12_load 17 = .ok (.iload_n 3, 1) := o29 ac_cX12_load_16 1 rfl
theorem dX12_load_18 : decode cX12_load 18 = .ok (.iload_n 1, 1) := o27 ac_cX12_load_16 2 rfl
theorem dX12_load_19 : decode cX12_load 19 = .ok (.if_icmp .ge 40, 3) := o162p ac_cX12_load_16 3 0 40 rfl rfl
theorem dX12_load_22 : decode cX12_load 22 = .ok (.aload_n 0, 1) := o42 ac_cX12_load_16 6 rfl
theorem dX12_load_23 : decode cX12_load 23 = .ok (.invokevirtual 387, 3) := o182 ac_cX12_load_16 7 1 131 rfl
theorem dX12_load_26 : decode cX12_load 26 = .ok (.aload_n 0, 1) := o42 ac_cX12_load_16 10 rfl
theorem dX12_load_27 : decode cX12_load 27 = .ok (.getfield 341, 3) := o180 ac_cX12_load_16 11 1 85 rfl
theorem dX12_load_30 : decode cX12_load 30 = .ok (.ifCond .lt 23, 3) := o155p ac_cX12_load_16 14 0 23 rfl rfl
def kb_cX12_load_48 : List Nat := [85, 96, 46, 96, 61, 132, 3, 1, 167, 255, 217, 28, 172]
theorem ac_cX12_load_48 : AL cX12_load 48 kb_cX12_load_48 := AL.of (m := 13) (by decide +kernel)
theorem dX12_load_53 : decode cX12_load 53 = .ok (.iinc 3 1, 3) := o132p ac_cX12_load_48 5 3 1 rfl rfl
theorem dX12_load_56 : decode cX12_load 56 = .ok (.goto (-39), 3) := o167n ac_cX12_load_48 8 255 217 38 rfl rfl rfl
theorem dX12_load_59 : decode cX12_load 59 = .ok (.iload_n 2, 1) := o28 ac_cX12_load_48 11 rfl
theorem dX12_load_60 : decode cX12_load 60 = .ok (.ireturn, 1) := o172 ac_cX12_load_48 12 rfl
theorem dX12_load_7 : decode cX12_load 7 = .ok (.iconst (-1), 1) := o2 ac_cX12_load_0 7 rfl
theorem dX12_load_8 : decode cX12_load 8 = .ok (.ireturn, 1) := o172 ac_cX12_load_0 8 rfl
def kb_cX12_rule_0 : List Nat := [27, 184, 1, 198, 154, 0, 7, 19, 1, 201, 172, 42, 182, 1, 173, 3, 61, 3, 62, 29]
theorem ac_cX12_rule_0 : AL cX12_rule 0 kb_cX12_rule_0 := AL.of (m := 20) (by decide +kernel)
theorem dX12_rule_0 : decode cX12_rule 0 = .ok (.iload_n 1, 1) := o27 ac_cX12_rule_0 0 rfl
theorem dX12_rule_1 : decode cX12_rule 1 = .ok (.invokestatic 454, 3) := o184 ac_cX12_rule_0 1 1 198 rfl
theorem dX12_rule_4 : decode cX12_rule 4 = .ok (.ifCond .ne 7, 3) := o154p ac_cX12_rule_0 4 0 7 rfl rfl
theorem dX12_rule_11 : decode cX12_rule 11 = .ok (.aload_n 0, 1) := o42 ac_cX12_rule_0 11 rfl
theorem dX12_rule_12 : decode cX12_rule 12 = .ok (.invokevirtual 429, 3) := o182 ac_cX12_rule_0 12 1 173 rfl
theorem dX12_rule_15 : decode cX12_rule 15 = .ok (.iconst 0, 1) := o3 ac_cX12_rule_0 15 rfl
def kb_cX12_rule_16 : List Nat := [61, 3, 62, 29, 27, 162, 0, 20, 42, 182, 1, 131, 28, 42, 180, 1, 109, 96, 61, 132]
theorem ac_cX12_rule_16 : AL cX12_rule 16 kb_cX12_rule_16 := AL.of (m := 20) (by decide +kernel)
theorem dX12_rule_16 : decode cX12_rule 16 = .ok (.istore_n 2, 1) := o61 ac_cX12_rule_16 0 rfl
theorem dX12_rule_17 : decode cX12_rule 17 = .ok (.iconst 0, 1) := o3 ac_cX12_rule_16 1 rfl
theorem dX12_rule_18 : decode cX12_rule 18 = .ok (.istore_n 3, 1) := o62 ac_cX12_rule_16 2 rfl
theorem dX12_rule_19 : decode cX12_rule 19 = .ok (.iload_n 3, 1) := o29 ac_cX12_rule_16 3 rfl
theorem dX12_rule_20 : decode cX12_rule 20 = .ok (.iload_n 1, 1) := o27 ac_cX12_rule_16 4 rfl
theorem dX12_rule_21 : decode cX12_rule 21 = .ok (.if_icmp .ge 20, 3) := o162p ac_cX12_rule_16 5 0 20 rfl rfl
theorem dX12_rule_24 : decode cX12_rule 24 = .ok (.aload_n 0, 1) := o42 ac_cX12_rule_16 8 rfl
theorem dX12_rule_25 : decode cX12_rule 25 = .ok (.invokevirtual 387, 3) := o182 ac_cX12_rule_16 9 1 131 rfl
theorem dX12_rule_28 : decode cX12_rule 28 = .ok (.iload_n 2, 1) := o28 ac_cX12_rule_16 12 rfl
theorem dX12_rule_29 : decode cX12_rule 29 = .ok (.aload_n 0, 1) := o42 ac_cX12_rule_16 13 rfl
theorem dX12_rule_30 : decode cX12_rule 30 = .ok (.getfield 365, 3) := o180 ac_cX12_rule_16 14 1 109 rfl
def kb_cX12_rule_32 : List Nat := [109, 96, 61, 132, 3, 1, 167, 255, 237, 28, 172]
theorem ac_cX12_rule_32 : AL cX12_rule 32 kb_cX12_rule_32 := AL.of (m := 11) (by decide +kernel)
theorem dX12_rule_33 : decode cX12_rule 33 = .ok (.iadd, 1) := o96 ac_cX12_rule_32 1 rfl
theorem dX12_rule_34 : decode cX12_rule 34 = .ok (.istore_n 2, 1) := o61 ac_cX12_rule_32 2 rfl
theorem dX12_rule_35 : decode cX12_rule 35 = .ok (.iinc 3 1, 3) := o132p ac_cX12_rule_32 3 3 1 rfl rfl
theorem dX12_rule_38 : decode cX12_rule 38 = .ok (.goto (-19), 3) := o167n ac_cX12_rule_32 6 255 237 18 rfl rfl rfl
theorem dX12_rule_41 : decode cX12_rule 41 = .ok (.iload_n 2, 1) := o28 ac_cX12_rule_32 9 rfl
theorem dX12_rule_42 : decode cX12_rule 42 = .ok (.ireturn, 1) := o172 ac_cX12_rule_32 10 rfl
theorem dX12_rule_7 : decode cX12_rule 7 = .ok (.ldc_w 457, 3) := o19 ac_cX12_rule_0 7 1 201 rfl
theorem dX12_rule_10 : decode cX12_rule 10 = .ok (.ireturn, 1) := o172 ac_cX12_rule_0 10 rfl
def kb_cX12_light_0 : List Nat := [27, 184, 1, 198, 153, 0, 12, 28, 3, 4, 184, 1, 45, 154, 0, 5, 2, 172, 16, 254]
theorem ac_cX12_light_0 : AL cX12_light 0 kb_cX12_light_0 := AL.of (m := 20) (by decide +kernel)
theorem dX12_light_0 : decode cX12_light 0 = .ok (.iload_n 1, 1) := o27 ac_cX12_light_0 0 rfl
theorem dX12_light_1 : decode cX12_light 1 = .ok (.invokestatic 454, 3) := o184 ac_cX12_light_0 1 1 198 rfl
theorem dX12_light_4 : decode cX12_light 4 = .ok (.ifCond .eq 12, 3) := o153p ac_cX12_light_0 4 0 12 rfl rfl
theorem dX12_light_7 : decode cX12_light 7 = .ok (.iload_n 2, 1) := o28 ac_cX12_light_0 7 rfl
theorem dX12_light_8 : decode cX12_light 8 = .ok (.iconst 0, 1) := o3 ac_cX12_light_0 8 rfl
theorem dX12_light_9 : decode cX12_light 9 = .ok (.iconst 1, 1) := o4 ac_cX12_light_0 9 rfl
theorem dX12_light_10 : decode cX12_light 10 = .ok (.invokestatic 301, 3) := o184 ac_cX12_light_0 10 1 45 rfl
theorem dX12_light_13 : decode cX12_light 13 = .ok (.ifCond .ne 5, 3) := o154p ac_cX12_light_0 13 0 5 rfl rfl
def kb_cX12_light_16 : List Nat := [2, 172, 16, 254, 62, 16, 254, 54, 4, 3, 54, 5, 21, 5, 42, 180, 0, 55, 42, 180]
theorem ac_cX12_light_16 : AL cX12_light 16 kb_cX12_light_16 := AL.of (m := 20) (by decide +kernel)
theorem dX12_light_18 : decode cX12_light 18 = .ok (.bipush (-2), 2) := o16n ac_cX12_light_16 2 254 1 rfl rfl rfl
theorem dX12_light_20 : decode cX12_light 20 = .ok (.istore_n 3, 1) := o62 ac_cX12_light_16 4 rfl
theorem dX12_light_21 : decode cX12_light 21 = .ok (.bipush (-2), 2) := o16n ac_cX12_light_16 5 254 1 rfl rfl rfl
theorem dX12_light_23 : decode cX12_light 23 = .ok (.istore 4, 2) := o54 ac_cX12_light_16 7 4 rfl
theorem dX12_light_25 : decode cX12_light 25 = .ok (.iconst 0, 1) := o3 ac_cX12_light_16 9 rfl
theorem dX12_light_26 : decode cX12_light 26 = .ok (.istore 5, 2) := o54 ac_cX12_light_16 10 5 rfl
theorem dX12_light_28 : decode cX12_light 28 = .ok (.iload 5, 2) := o21 ac_cX12_light_16 12 5 rfl
theorem dX12_light_30 : decode cX12_light 30 = .ok (.aload_n 0, 1) := o42 ac_cX12_light_16 14 rfl
theorem dX12_light_31 : decode cX12_light 31 = .ok (.getfield 55, 3) := o180 ac_cX12_light_16 15 0 55 rfl
def kb_cX12_light_32 : List Nat := [0, 55, 42, 180, 0, 221, 46, 162, 0, 75, 42, 182, 1, 173, 42, 21, 5, 182, 1, 161]
theorem ac_cX12_light_32 : AL cX12_light 32 kb_cX12_light_32 := AL.of (m := 20) (by decide +kernel)
theorem dX12_light_34 : decode cX12_light 34 = .ok (.aload_n 0, 1) := o42 ac_cX12_light_32 2 rfl
theorem dX12_light_35 : decode cX12_light 35 = .ok (.getfield 221, 3) := o180 ac_cX12_light_32 3 0 221 rfl
theorem dX12_light_38 : decode cX12_light 38 = .ok (.iaload, 1) := o46 ac_cX12_light_32 6 rfl
theorem dX12_light_39 : decode cX12_light 39 = .ok (.if_icmp .ge 75, 3) := o162p ac_cX12_light_32 7 0 75 rfl rfl
def kb_cX12_light_112 : List Nat := [255, 173, 28, 154, 0, 7, 29, 167, 0, 5, 21, 4, 172]
theorem ac_cX12_light_112 : AL cX12_light 112 kb_cX12_light_112 := AL.of (m := 13) (by decide +kernel)
theorem dX12_light_114 : decode cX12_light 114 = .ok (.iload_n 2, 1) := o28 ac_cX12_light_112 2 rfl
theorem dX12_light_115 : decode cX12_light 115 = .ok (.ifCond .ne 7, 3) := o154p ac_cX12_light_112 3 0 7 rfl rfl
theorem dX12_light_118 : decode cX12_light 118 = .ok (.iload_n 3, 1) := o29 ac_cX12_light_112 6 rfl
theorem dX12_light_119 : decode cX12_light 119 = .ok (.goto 5, 3) := o167p ac_cX12_light_112 7 0 5 rfl rfl
theorem dX12_light_122 : decode cX12_light 122 = .ok (.iload 4, 2) := o21 ac_cX12_light_112 10 4 rfl
theorem dX12_light_124 : decode cX12_light 124 = .ok (.ireturn, 1) := o172 ac_cX12_light_112 12 rfl
theorem dX12_light_16 : decode cX12_light 16 = .ok (.iconst (-1), 1) := o2 ac_cX12_light_16 0 rfl
theorem dX12_light_17 : decode cX12_light 17 = .ok (.ireturn, 1) := o172 ac_cX12_light_16 1 rfl
def kb_cX12_order_0 : List Nat := [27, 3, 16, 6, 184, 1, 45, 154, 0, 5, 2, 172, 42, 182, 1, 55, 3, 61, 3, 62]
theorem ac_cX12_order_0 : AL cX12_order 0 kb_cX12_order_0 := AL.of (m := 20) (by decide +kernel)
theorem dX12_order_0 : decode cX12_order 0 = .ok (.iload_n 1, 1) := o27 ac_cX12_order_0 0 rfl
theorem dX12_order_1 : decode cX12_order 1 = .ok (.iconst 0, 1) := o3 ac_cX12_order_0 1 rfl
theorem dX12_order_2 : decode cX12_order 2 = .ok (.bipush 6, 2) := o16p ac_cX12_order_0 2 6 rfl rfl
theorem dX12_order_4 : decode cX12_order 4 = .ok (.invokestatic 301, 3) := o184 ac_cX12_order_0 4 1 45 rfl
theorem dX12_order_7 : decode cX12_order 7 = .ok (.ifCond .ne 5, 3) := o154p ac_cX12_order_0 7 0 5 rfl rfl
theorem dX12_order_12 : decode cX12_order 12 = .ok (.aload_n 0, 1) := o42 ac_cX12_order_0 12 rfl
theorem dX12_order_13 : decode cX12_order 13 = .ok (.invokevirtual 311, 3) := o182 ac_cX12_order_0 13 1 55 rfl
def kb_cX12_order_16 : List Nat := [3, 61, 3, 62, 29, 16, 70, 162, 0, 51, 42, 29, 16, 7, 112, 182, 1, 134, 153, 0]
theorem ac_cX12_order_16 : AL cX12_order 16 kb_cX12_order_16 := AL.of (m := 20) (by decide +kernel)
theorem dX12_order_16 : decode cX12_order 16 = .ok (.iconst 0, 1) := o3 ac_cX12_order_16 0 rfl
theorem dX12_order_17 : decode cX12_order 17 = .ok (.istore_n 2, 1) := o61 ac_cX12_order_16 1 rfl
theorem dX12_order_18 : decode cX12_order 18 = .ok (.iconst 0, 1) := o3 ac_cX12_order_16 2 rfl
theorem dX12_order_19 : decode cX12_order 19 = .ok (.istore_n 3, 1) := o62 ac_cX12_order_16 3 rfl
theorem dX12_order_20 : decode cX12_order 20 = .ok (.iload_n 3, 1) := o29 ac_cX12_order_16 4 rfl
theorem dX12_order_21 : decode cX12_order 21 = .ok (.bipush 70, 2) := o16p ac_cX12_order_16 5 70 rfl rfl
theorem dX12_order_23 : decode cX12_order 23 = .ok (.if_icmp .ge 51, 3) := o162p ac_cX12_order_16 7 0 51 rfl rfl
theorem dX12_order_26 : decode cX12_order 26 = .ok (.aload_n 0, 1) := o42 ac_cX12_order_16 10 rfl
theorem dX12_order_27 : decode cX12_order 27 = .ok (.iload_n 3, 1) := o29 ac_cX12_order_16 11 rfl
theorem dX12_order_28 : decode cX12_order 28 = .ok (.bipush 7, 2) := o16p ac_cX12_order_16 12 7 rfl rfl
theorem dX12_order_30 : decode cX12_order 30 = .ok (.irem, 1) := o112 ac_cX12_order_16 14 rfl
theorem dX12_order_31 : decode cX12_order 31 = .ok (.invokevirtual 390, 3) := o182 ac_cX12_order_16 15 1 134 rfl
def kb_cX12_order_32 : List Nat := [1, 134, 153, 0, 34, 42, 29, 16, 7, 112, 29, 16, 7, 108, 182, 1, 68, 154, 0, 6]
theorem ac_cX12_order_32 : AL cX12_order 32 kb_cX12_order_32 := AL.of (m := 20) (by decide +kernel)
theorem dX12_order_34 : decode cX12_order 34 = .ok (.ifCond .eq 34, 3) := o153p ac_cX12_order_32 2 0 34 rfl rfl
def kb_cX12_order_64 : List Nat := [172, 132, 2, 1, 132, 3, 1, 167, 255, 205, 2, 172]
theorem ac_cX12_order_64 : AL cX12_order 64 kb_cX12_order_64 := AL.of (m := 12) (by decide +kernel)
theorem dX12_order_68 : decode cX12_order 68 = .ok (.iinc 3 1, 3) := o132p ac_cX12_order_64 4 3 1 rfl rfl
theorem dX12_order_71 : decode cX12_order 71 = .ok (.goto (-51), 3) := o167n ac_cX12_order_64 7 255 205 50 rfl rfl rfl
theorem dX12_order_74 : decode cX12_order 74 = .ok (.iconst (-1), 1) := o2 ac_cX12_order_64 10 rfl
theorem dX12_order_75 : decode cX12_order 75 = .ok (.ireturn, 1) := o172 ac_cX12_order_64 11 rfl
theorem dX12_order_10 : decode cX12_order 10 = .ok (.iconst (-1), 1) := o2 ac_cX12_order_0 10 rfl
theorem dX12_order_11 : decode cX12_order 11 = .ok (.ireturn, 1) := o172 ac_cX12_order_0 11 rfl
def kb_cX12_glitterBits_0 : List Nat := [42, 182, 1, 173, 42, 3, 182, 1, 94, 61, 3, 62, 29, 16, 40, 163, 0, 23, 42, 182]
theorem ac_cX12_glitterBits_0 : AL cX12_glitterBits 0 kb_cX12_glitterBits_0 := AL.of (m := 20) (by decide +kernel)
theorem dX12_glitterBits_0 : decode cX12_glitterBits 0 = .ok (.aload_n 0, 1) := o42 ac_cX12_glitterBits_0 0 rfl
theorem dX12_glitterBits_1 : decode cX12_glitterBits 1 = .ok (.invokevirtual 429, 3) := o182 ac_cX12_glitterBits_0 1 1 173 rfl
theorem dX12_glitterBits_4 : decode cX12_glitterBits 4 = .ok (.aload_n 0, 1) := o42 ac_cX12_glitterBits_0 4 rfl
theorem dX12_glitterBits_5 : decode cX12_glitterBits 5 = .ok (.iconst 0, 1) := o3 ac_cX12_glitterBits_0 5 rfl
theorem dX12_glitterBits_6 : decode cX12_glitterBits 6 = .ok (.invokevirtual 350, 3) := o182 ac_cX12_glitterBits_0 6 1 94 rfl
theorem dX12_glitterBits_9 : decode cX12_glitterBits 9 = .ok (.istore_n 2, 1) := o61 ac_cX12_glitterBits_0 9 rfl
theorem dX12_glitterBits_10 : decode cX12_glitterBits 10 = .ok (.iconst 0, 1) := o3 ac_cX12_glitterBits_0 10 rfl
theorem dX12_glitterBits_11 : decode cX12_glitterBits 11 = .ok (.istore_n 3, 1) := o62 ac_cX12_glitterBits_0 11 rfl
theorem dX12_glitterBits_12 : decode cX12_glitterBits 12 = .ok (.iload_n 3, 1) := o29 ac_cX12_glitterBits_0 12 rfl
theorem dX12_glitterBits_13 : decode cX12_glitterBits 13 = .ok (.bipush 40, 2) := o16p ac_cX12_glitterBits_0 13 40 rfl rfl
theorem dX12_glitterBits_15 : decode cX12_glitterBits 15 = .ok (.if_icmp .gt 23, 3) := o163p ac_cX12_glitterBits_0 15 0 23 rfl rfl
def kb_cX12_glitterBits_16 : List Nat := [0, 23, 42, 182, 1, 131, 42, 180, 0, 131, 29, 42, 180, 1, 85, 79, 132, 3, 1, 167]
theorem ac_cX12_glitterBits_16 : AL cX12_glitterBits 16 kb_cX12_glitterBits_16 := AL.of (m := 20) (by decide +kernel)
theorem dX12_glitterBits_18 : decode cX12_glitterBits 18 = .ok (.aload_n 0, 1) := o42 ac_cX12_glitterBits_16 2 rfl
theorem dX12_glitterBits_19 : decode cX12_glitterBits 19 = .ok (.invokevirtual 387, 3) := o182 ac_cX12_glitterBits_16 3 1 131 rfl
theorem dX12_glitterBits_22 : decode cX12_glitterBits 22 = .ok (.aload_n 0, 1) := o42 ac_cX12_glitterBits_16 6 rfl
theorem dX12_glitterBits_23 : decode cX12_glitterBits 23 = .ok (.getfield 131, 3) := o180 ac_cX12_glitterBits_16 7 0 131 rfl
theorem dX12_glitterBits_26 : decode cX12_glitterBits 26 = .ok (.iload_n 3, 1) := o29 ac_cX12_glitterBits_16 10 rfl
theorem dX12_glitterBits_27 : decode cX12_glitterBits 27 = .ok (.aload_n 0, 1) := o42 ac_cX12_glitterBits_16 11 rfl
theorem dX12_glitterBits_28 : decode cX12_glitterBits 28 = .ok (.getfield 341, 3) := o180 ac_cX12_glitterBits_16 12 1 85 rfl
theorem dX12_glitterBits_31 : decode cX12_glitterBits 31 = .ok (.iastore, 1) := o79 ac_cX12_glitterBits_16 15 rfl
def kb_cX12_glitterBits_32 : List Nat := [132, 3, 1, 167, 255, 233, 3, 62, 29, 27, 162, 0, 64, 3, 54, 4, 21, 4, 16, 7]
theorem ac_cX12_glitterBits_32 : AL cX12_glitterBits 32 kb_cX12_glitterBits_32 := AL.of (m := 20) (by decide +kernel)
theorem dX12_glitterBits_32 : decode cX12_glitterBits 32 = .ok (.iinc 3 1, 3) := o132p ac_cX12_glitterBits_32 0 3 1 rfl rfl
theorem dX12_glitterBits_35 : decode cX12_glitterBits 35 = .ok (.goto (-23), 3) := o167n ac_cX12_glitterBits_32 3 255 233 22 rfl rfl rfl
theorem dX12_glitterBits_38 : decode cX12_glitterBits 38 = .ok (.iconst 0, 1) := o3 ac_cX12_glitterBits_32 6 rfl
theorem dX12_glitterBits_39 : decode cX12_glitterBits 39 = .ok (.istore_n 3, 1) := o62 ac_cX12_glitterBits_32 7 rfl
theorem dX12_glitterBits_40 : decode cX12_glitterBits 40 = .ok (.iload_n 3, 1) := o29 ac_cX12_glitterBits_32 8 rfl
theorem dX12_glitterBits_41 : decode cX12_glitterBits 41 = .ok (.iload_n 1, 1) := o27 ac_cX12_glitterBits_32 9 rfl
theorem dX12_glitterBits_42 : decode cX12_glitterBits 42 = .ok (.if_icmp .ge 64, 3) := o162p ac_cX12_glitterBits_32 10 0 64 rfl rfl
def kb_cX12_glitterBits_96 : List Nat := [1, 167, 255, 207, 132, 3, 1, 167, 255, 193, 28, 172]
theorem ac_cX12_glitterBits_96 : AL cX12_glitterBits 96 kb_cX12_glitterBits_96 := AL.of (m := 12) (by decide +kernel)
theorem dX12_glitterBits_106 : decode cX12_glitterBits 106 = .ok (.iload_n 2, 1) := o28 ac_cX12_glitterBits_96 10 rfl
theorem dX12_glitterBits_107 : decode cX12_glitterBits 107 = .ok (.ireturn, 1) := o172 ac_cX12_glitterBits_96 11 rfl
def kb_cX12_watch_0 : List Nat := [27, 3, 42, 180, 0, 242, 184, 1, 45, 154, 0, 5, 2, 172, 42, 27, 182, 1, 202, 61]
theorem ac_cX12_watch_0 : AL cX12_watch 0 kb_cX12_watch_0 := AL.of (m := 20) (by decide +kernel)
theorem dX12_watch_0 : decode cX12_watch 0 = .ok (.iload_n 1, 1) := o27 ac_cX12_watch_0 0 rfl
theorem dX12_watch_1 : decode cX12_watch 1 = .ok (.iconst 0, 1) := o3 ac_cX12_watch_0 1 rfl
theorem dX12_watch_2 : decode cX12_watch 2 = .ok (.aload_n 0, 1) := o42 ac_cX12_watch_0 2 rfl
theorem dX12_watch_3 : decode cX12_watch 3 = .ok (.getfield 242, 3) := o180 ac_cX12_watch_0 3 0 242 rfl
theorem dX12_watch_6 : decode cX12_watch 6 = .ok (.invokestatic 301, 3) := o184 ac_cX12_watch_0 6 1 45 rfl
theorem dX12_watch_9 : decode cX12_watch 9 = .ok (.ifCond .ne 5, 3) := o154p ac_cX12_watch_0 9 0 5 rfl rfl
theorem dX12_watch_14 : decode cX12_watch 14 = .ok (.aload_n 0, 1) := o42 ac_cX12_watch_0 14 rfl
theorem dX12_watch_15 : decode cX12_watch 15 = .ok (.iload_n 1, 1) := o27 ac_cX12_watch_0 15 rfl
def kb_cX12_watch_16 : List Nat := [182, 1, 202, 61, 28, 184, 1, 97, 62, 16, 254, 54, 4, 3, 54, 5, 3, 54, 6, 21]
theorem ac_cX12_watch_16 : AL cX12_watch 16 kb_cX12_watch_16 := AL.of (m := 20) (by decide +kernel)
theorem dX12_watch_16 : decode cX12_watch 16 = .ok (.invokevirtual 458, 3) := o182 ac_cX12_watch_16 0 1 202 rfl
theorem dX12_watch_19 : decode cX12_watch 19 = .ok (.istore_n 2, 1) := o61 ac_cX12_watch_16 3 rfl
theorem dX12_watch_20 : decode cX12_watch 20 = .ok (.iload_n 2, 1) := o28 ac_cX12_watch_16 4 rfl
theorem dX12_watch_21 : decode cX12_watch 21 = .ok (.invokestatic 353, 3) := o184 ac_cX12_watch_16 5 1 97 rfl
theorem dX12_watch_24 : decode cX12_watch 24 = .ok (.istore_n 3, 1) := o62 ac_cX12_watch_16 8 rfl
theorem dX12_watch_25 : decode cX12_watch 25 = .ok (.bipush (-2), 2) := o16n ac_cX12_watch_16 9 254 1 rfl rfl rfl
theorem dX12_watch_27 : decode cX12_watch 27 = .ok (.istore 4, 2) := o54 ac_cX12_watch_16 11 4 rfl
theorem dX12_watch_29 : decode cX12_watch 29 = .ok (.iconst 0, 1) := o3 ac_cX12_watch_16 13 rfl
theorem dX12_watch_30 : decode cX12_watch 30 = .ok (.istore 5, 2) := o54 ac_cX12_watch_16 14 5 rfl
def kb_cX12_watch_32 : List Nat := [3, 54, 6, 21, 6, 16, 40, 163, 0, 88, 29, 158, 0, 84, 42, 180, 0, 131, 21, 6]
theorem ac_cX12_watch_32 : AL cX12_watch 32 kb_cX12_watch_32 := AL.of (m := 20) (by decide +kernel)
theorem dX12_watch_32 : decode cX12_watch 32 = .ok (.iconst 0, 1) := o3 ac_cX12_watch_32 0 rfl
theorem dX12_watch_33 : decode cX12_watch 33 = .ok (.istore 6, 2) := o54 ac_cX12_watch_32 1 6 rfl
theorem dX12_watch_35 : decode cX12_watch 35 = .ok (.iload 6, 2) := o21 ac_cX12_watch_32 3 6 rfl
theorem dX12_watch_37 : decode cX12_watch 37 = .ok (.bipush 40, 2) := o16p ac_cX12_watch_32 5 40 rfl rfl
theorem dX12_watch_39 : decode cX12_watch 39 = .ok (.if_icmp .gt 88, 3) := o163p ac_cX12_watch_32 7 0 88 rfl rfl
theorem dX12_watch_42 : decode cX12_watch 42 = .ok (.iload_n 3, 1) := o29 ac_cX12_watch_32 10 rfl
theorem dX12_watch_43 : decode cX12_watch 43 = .ok (.ifCond .le 84, 3) := o158p ac_cX12_watch_32 11 0 84 rfl rfl
def kb_cX12_watch_112 : List Nat := [11, 21, 6, 54, 4, 21, 8, 54, 5, 132, 6, 1, 167, 255, 167, 21, 4, 172]
theorem ac_cX12_watch_112 : AL cX12_watch 112 kb_cX12_watch_112 := AL.of (m := 18) (by decide +kernel)
theorem dX12_watch_127 : decode cX12_watch 127 = .ok (.iload 4, 2) := o21 ac_cX12_watch_112 15 4 rfl
def kb_cX12_watch_128 : List Nat := [4, 172]
theorem ac_cX12_watch_128 : AL cX12_watch 128 kb_cX12_watch_128 := AL.of (m := 2) (by decide +kernel)
theorem dX12_watch_129 : decode cX12_watch 129 = .ok (.ireturn, 1) := o172 ac_cX12_watch_128 1 rfl
theorem dX12_watch_12 : decode cX12_watch 12 = .ok (.iconst (-1), 1) := o2 ac_cX12_watch_0 12 rfl
theorem dX12_watch_13 : decode cX12_watch 13 = .ok (.ireturn, 1) := o172 ac_cX12_watch_0 13 rfl
def kb_cX12_glitters_0 : List Nat := [27, 3, 42, 180, 0, 242, 184, 1, 45, 153, 0, 12, 28, 3, 4, 184, 1, 45, 154, 0]
theorem ac_cX12_glitters_0 : AL cX12_glitters 0 kb_cX12_glitters_0 := AL.of (m := 20) (by decide +kernel)
theorem dX12_glitters_0 : decode cX12_glitters 0 = .ok (.iload_n 1, 1) := o27 ac_cX12_glitters_0 0 rfl
theorem dX12_glitters_1 : decode cX12_glitters 1 = .ok (.iconst 0, 1) := o3 ac_cX12_glitters_0 1 rfl
theorem dX12_glitters_2 : decode cX12_glitters 2 = .ok (.aload_n 0, 1) := o42 ac_cX12_glitters_0 2 rfl
theorem dX12_glitters_3 : decode cX12_glitters 3 = .ok (.getfield 242, 3) := o180 ac_cX12_glitters_0 3 0 242 rfl
theorem dX12_glitters_6 : decode cX12_glitters 6 = .ok (.invokestatic 301, 3) := o184 ac_cX12_glitters_0 6 1 45 rfl
theorem dX12_glitters_9 : decode cX12_glitters 9 = .ok (.ifCond .eq 12, 3) := o153p ac_cX12_glitters_0 9 0 12 rfl rfl
theorem dX12_glitters_12 : decode cX12_glitters 12 = .ok (.iload_n 2, 1) := o28 ac_cX12_glitters_0 12 rfl
theorem dX12_glitters_13 : decode cX12_glitters 13 = .ok (.iconst 0, 1) := o3 ac_cX12_glitters_0 13 rfl
theorem dX12_glitters_14 : decode cX12_glitters 14 = .ok (.iconst 1, 1) := o4 ac_cX12_glitters_0 14 rfl
theorem dX12_glitters_15 : decode cX12_glitters 15 = .ok (.invokestatic 301, 3) := o184 ac_cX12_glitters_0 15 1 45 rfl
def kb_cX12_glitters_16 : List Nat := [1, 45, 154, 0, 5, 2, 172, 42, 27, 182, 1, 202, 62, 28, 154, 0, 10, 29, 184, 1]
theorem ac_cX12_glitters_16 : AL cX12_glitters 16 kb_cX12_glitters_16 := AL.of (m := 20) (by decide +kernel)
theorem dX12_glitters_18 : decode cX12_glitters 18 = .ok (.ifCond .ne 5, 3) := o154p ac_cX12_glitters_16 2 0 5 rfl rfl
theorem dX12_glitters_23 : decode cX12_glitters 23 = .ok (.aload_n 0, 1) := o42 ac_cX12_glitters_16 7 rfl
theorem dX12_glitters_24 : decode cX12_glitters 24 = .ok (.iload_n 1, 1) := o27 ac_cX12_glitters_16 8 rfl
theorem dX12_glitters_25 : decode cX12_glitters 25 = .ok (.invokevirtual 458, 3) := o182 ac_cX12_glitters_16 9 1 202 rfl
theorem dX12_glitters_28 : decode cX12_glitters 28 = .ok (.istore_n 3, 1) := o62 ac_cX12_glitters_16 12 rfl
theorem dX12_glitters_29 : decode cX12_glitters 29 = .ok (.iload_n 2, 1) := o28 ac_cX12_glitters_16 13 rfl
theorem dX12_glitters_30 : decode cX12_glitters 30 = .ok (.ifCond .ne 10, 3) := o154p ac_cX12_glitters_16 14 0 10 rfl rfl
def kb_cX12_glitters_32 : List Nat := [10, 29, 184, 1, 97, 167, 0, 4, 29, 172]
theorem ac_cX12_glitters_32 : AL cX12_glitters 32 kb_cX12_glitters_32 := AL.of (m := 10) (by decide +kernel)
theorem dX12_glitters_33 : decode cX12_glitters 33 = .ok (.iload_n 3, 1) := o29 ac_cX12_glitters_32 1 rfl
theorem dX12_glitters_34 : decode cX12_glitters 34 = .ok (.invokestatic 353, 3) := o184 ac_cX12_glitters_32 2 1 97 rfl
theorem dX12_glitters_37 : decode cX12_glitters 37 = .ok (.goto 4, 3) := o167p ac_cX12_glitters_32 5 0 4 rfl rfl
theorem dX12_glitters_40 : decode cX12_glitters 40 = .ok (.iload_n 3, 1) := o29 ac_cX12_glitters_32 8 rfl
theorem dX12_glitters_41 : decode cX12_glitters 41 = .ok (.ireturn, 1) := o172 ac_cX12_glitters_32 9 rfl
theorem dX12_glitters_21 : decode cX12_glitters 21 = .ok (.iconst (-1), 1) := o2 ac_cX12_glitters_16 5 rfl
theorem dX12_glitters_22 : decode cX12_glitters 22 = .ok (.ireturn, 1) := o172 ac_cX12_glitters_16 6 rfl
def kb_cX12_then_0 : List Nat := [27, 184, 1, 146, 153, 0, 12, 28, 3, 6, 184, 1, 45, 154, 0, 5, 2, 172, 42, 182]
theorem ac_cX12_then_0 : AL cX12_then 0 kb_cX12_then_0 := AL.of (m := 20) (by decide +kernel)
theorem dX12_then_0 : decode cX12_then 0 = .ok (.iload_n 1, 1) := o27 ac_cX12_then_0 0 rfl
theorem dX12_then_1 : decode cX12_then 1 = .ok (.invokestatic 402, 3) := o184 ac_cX12_then_0 1 1 146 rfl
theorem dX12_then_4 : decode cX12_then 4 = .ok (.ifCond .eq 12, 3) := o153p ac_cX12_then_0 4 0 12 rfl rfl
theorem dX12_then_7 : decode cX12_then 7 = .ok (.iload_n 2, 1) := o28 ac_cX12_then_0 7 rfl
theorem dX12_then_8 : decode cX12_then 8 = .ok (.iconst 0, 1) := o3 ac_cX12_then_0 8 rfl
theorem dX12_then_9 : decode cX12_then 9 = .ok (.iconst 3, 1) := o6 ac_cX12_then_0 9 rfl
theorem dX12_then_10 : decode cX12_then 10 = .ok (.invokestatic 301, 3) := o184 ac_cX12_then_0 10 1 45 rfl
theorem dX12_then_13 : decode cX12_then 13 = .ok (.ifCond .ne 5, 3) := o154p ac_cX12_then_0 13 0 5 rfl rfl
def kb_cX12_then_16 : List Nat := [2, 172, 42, 182, 1, 55, 42, 27, 182, 1, 149, 28, 170, 0, 0, 0, 0, 0, 0, 61]
theorem ac_cX12_then_16 : AL cX12_then 16 kb_cX12_then_16 := AL.of (m := 20) (by decide +kernel)
theorem dX12_then_18 : decode cX12_then 18 = .ok (.aload_n 0, 1) := o42 ac_cX12_then_16 2 rfl
theorem dX12_then_19 : decode cX12_then 19 = .ok (.invokevirtual 311, 3) := o182 ac_cX12_then_16 3 1 55 rfl
theorem dX12_then_22 : decode cX12_then 22 = .ok (.aload_n 0, 1) := o42 ac_cX12_then_16 6 rfl
theorem dX12_then_23 : decode cX12_then 23 = .ok (.iload_n 1, 1) := o27 ac_cX12_then_16 7 rfl
theorem dX12_then_24 : decode cX12_then 24 = .ok (.invokevirtual 405, 3) := o182 ac_cX12_then_16 8 1 149 rfl
theorem dX12_then_27 : decode cX12_then 27 = .ok (.iload_n 2, 1) := o28 ac_cX12_then_16 11 rfl
theorem dX12_then_28 : decode cX12_then 28 = .ok (.tableswitch 61 0 2 #[28, 36, 45], 28) := by decide +kernel
def kb_cX12_then_48 : List Nat := [0, 0, 0, 36, 0, 0, 0, 45, 42, 180, 0, 110, 16, 22, 46, 172, 42, 3, 182, 1]
theorem ac_cX12_then_48 : AL cX12_then 48 kb_cX12_then_48 := AL.of (m := 20) (by decide +kernel)
theorem dX12_then_56 : decode cX12_then 56 = .ok (.aload_n 0, 1) := o42 ac_cX12_then_48 8 rfl
theorem dX12_then_57 : decode cX12_then 57 = .ok (.getfield 110, 3) := o180 ac_cX12_then_48 9 0 110 rfl
theorem dX12_then_60 : decode cX12_then 60 = .ok (.bipush 22, 2) := o16p ac_cX12_then_48 12 22 rfl rfl
theorem dX12_then_62 : decode cX12_then 62 = .ok (.iaload, 1) := o46 ac_cX12_then_48 14 rfl
theorem dX12_then_63 : decode cX12_then 63 = .ok (.ireturn, 1) := o172 ac_cX12_then_48 15 rfl
def kb_cX12_then_64 : List Nat := [42, 3, 182, 1, 94, 184, 1, 97, 172, 42, 180, 0, 110, 16, 23, 46, 42, 180, 0, 107]
theorem ac_cX12_then_64 : AL cX12_then 64 kb_cX12_then_64 := AL.of (m := 20) (by decide +kernel)
theorem dX12_then_64 : decode cX12_then 64 = .ok (.aload_n 0, 1) := o42 ac_cX12_then_64 0 rfl
theorem dX12_then_65 : decode cX12_then 65 = .ok (.iconst 0, 1) := o3 ac_cX12_then_64 1 rfl
theorem dX12_then_66 : decode cX12_then 66 = .ok (.invokevirtual 350, 3) := o182 ac_cX12_then_64 2 1 94 rfl
theorem dX12_then_69 : decode cX12_then 69 = .ok (.invokestatic 353, 3) := o184 ac_cX12_then_64 5 1 97 rfl
theorem dX12_then_72 : decode cX12_then 72 = .ok (.ireturn, 1) := o172 ac_cX12_then_64 8 rfl
theorem dX12_then_73 : decode cX12_then 73 = .ok (.aload_n 0, 1) := o42 ac_cX12_then_64 9 rfl
theorem dX12_then_74 : decode cX12_then 74 = .ok (.getfield 110, 3) := o180 ac_cX12_then_64 10 0 110 rfl
theorem dX12_then_77 : decode cX12_then 77 = .ok (.bipush 23, 2) := o16p ac_cX12_then_64 13 23 rfl rfl
theorem dX12_then_79 : decode cX12_then 79 = .ok (.iaload, 1) := o46 ac_cX12_then_64 15 rfl
def kb_cX12_then_80 : List Nat := [42, 180, 0, 107, 16, 23, 46, 100, 172, 42, 180, 0, 110, 16, 25, 46, 42, 180, 0, 107]
theorem ac_cX12_then_80 : AL cX12_then 80 kb_cX12_then_80 := AL.of (m := 20) (by decide +kernel)
theorem dX12_then_80 : decode cX12_then 80 = .ok (.aload_n 0, 1) := o42 ac_cX12_then_80 0 rfl
theorem dX12_then_81 : decode cX12_then 81 = .ok (.getfield 107, 3) := o180 ac_cX12_then_80 1 0 107 rfl
theorem dX12_then_84 : decode cX12_then 84 = .ok (.bipush 23, 2) := o16p ac_cX12_then_80 4 23 rfl rfl
theorem dX12_then_86 : decode cX12_then 86 = .ok (.iaload, 1) := o46 ac_cX12_then_80 6 rfl
theorem dX12_then_87 : decode cX12_then 87 = .ok (.isub, 1) := o100 ac_cX12_then_80 7 rfl
theorem dX12_then_88 : decode cX12_then 88 = .ok (.ireturn, 1) := o172 ac_cX12_then_80 8 rfl
theorem dX12_then_89 : decode cX12_then 89 = .ok (.aload_n 0, 1) := o42 ac_cX12_then_80 9 rfl
theorem dX12_then_90 : decode cX12_then 90 = .ok (.getfield 110, 3) := o180 ac_cX12_then_80 10 0 110 rfl
theorem dX12_then_93 : decode cX12_then 93 = .ok (.bipush 25, 2) := o16p ac_cX12_then_80 13 25 rfl rfl
theorem dX12_then_95 : decode cX12_then 95 = .ok (.iaload, 1) := o46 ac_cX12_then_80 15 rfl
def kb_cX12_then_96 : List Nat := [42, 180, 0, 107, 16, 25, 46, 100, 172]
theorem ac_cX12_then_96 : AL cX12_then 96 kb_cX12_then_96 := AL.of (m := 9) (by decide +kernel)
theorem dX12_then_96 : decode cX12_then 96 = .ok (.aload_n 0, 1) := o42 ac_cX12_then_96 0 rfl
theorem dX12_then_97 : decode cX12_then 97 = .ok (.getfield 107, 3) := o180 ac_cX12_then_96 1 0 107 rfl
theorem dX12_then_100 : decode cX12_then 100 = .ok (.bipush 25, 2) := o16p ac_cX12_then_96 4 25 rfl rfl
theorem dX12_then_102 : decode cX12_then 102 = .ok (.iaload, 1) := o46 ac_cX12_then_96 6 rfl
theorem dX12_then_103 : decode cX12_then 103 = .ok (.isub, 1) := o100 ac_cX12_then_96 7 rfl
theorem dX12_then_104 : decode cX12_then 104 = .ok (.ireturn, 1) := o172 ac_cX12_then_96 8 rfl
theorem dX12_then_16 : decode cX12_then 16 = .ok (.iconst (-1), 1) := o2 ac_cX12_then_16 0 rfl
theorem dX12_then_17 : decode cX12_then 17 = .ok (.ireturn, 1) := o172 ac_cX12_then_16 1 rfl
def kb_cX12_year_0 : List Nat := [27, 184, 1, 146, 153, 0, 13, 28, 4, 16, 20, 184, 1, 45, 154, 0, 5, 2, 172, 3]
theorem ac_cX12_year_0 : AL cX12_year 0 kb_cX12_year_0 := AL.of (m := 20) (by decide +kernel)
theorem dX12_year_0 : decode cX12_year 0 = .ok (.iload_n 1, 1) := o27 ac_cX12_year_0 0 rfl
theorem dX12_year_1 : decode cX12_year 1 = .ok (.invokestatic 402, 3) := o184 ac_cX12_year_0 1 1 146 rfl
theorem dX12_year_4 : decode cX12_year 4 = .ok (.ifCond .eq 13, 3) := o153p ac_cX12_year_0 4 0 13 rfl rfl
theorem dX12_year_7 : decode cX12_year 7 = .ok (.iload_n 2, 1) := o28 ac_cX12_year_0 7 rfl
theorem dX12_year_8 : decode cX12_year 8 = .ok (.iconst 1, 1) := o4 ac_cX12_year_0 8 rfl
theorem dX12_year_9 : decode cX12_year 9 = .ok (.bipush 20, 2) := o16p ac_cX12_year_0 9 20 rfl rfl
theorem dX12_year_11 : decode cX12_year 11 = .ok (.invokestatic 301, 3) := o184 ac_cX12_year_0 11 1 45 rfl
theorem dX12_year_14 : decode cX12_year 14 = .ok (.ifCond .ne 5, 3) := o154p ac_cX12_year_0 14 0 5 rfl rfl
def kb_cX12_year_16 : List Nat := [5, 2, 172, 3, 62, 3, 54, 4, 21, 4, 28, 162, 0, 49, 42, 182, 1, 55, 42, 89]
theorem ac_cX12_year_16 : AL cX12_year 16 kb_cX12_year_16 := AL.of (m := 20) (by decide +kernel)
theorem dX12_year_19 : decode cX12_year 19 = .ok (.iconst 0, 1) := o3 ac_cX12_year_16 3 rfl
theorem dX12_year_20 : decode cX12_year 20 = .ok (.istore_n 3, 1) := o62 ac_cX12_year_16 4 rfl
theorem dX12_year_21 : decode cX12_year 21 = .ok (.iconst 0, 1) := o3 ac_cX12_year_16 5 rfl
theorem dX12_year_22 : decode cX12_year 22 = .ok (.istore 4, 2) := o54 ac_cX12_year_16 6 4 rfl
theorem dX12_year_24 : decode cX12_year 24 = .ok (.iload 4, 2) := o21 ac_cX12_year_16 8 4 rfl
theorem dX12_year_26 : decode cX12_year 26 = .ok (.iload_n 2, 1) := o28 ac_cX12_year_16 10 rfl
theorem dX12_year_27 : decode cX12_year 27 = .ok (.if_icmp .ge 49, 3) := o162p ac_cX12_year_16 11 0 49 rfl rfl
theorem dX12_year_30 : decode cX12_year 30 = .ok (.aload_n 0, 1) := o42 ac_cX12_year_16 14 rfl
theorem dX12_year_31 : decode cX12_year 31 = .ok (.invokevirtual 311, 3) := o182 ac_cX12_year_16 15 1 55 rfl
def kb_cX12_year_32 : List Nat := [1, 55, 42, 89, 180, 1, 49, 21, 4, 96, 181, 1, 49, 42, 27, 182, 1, 149, 42, 180]
theorem ac_cX12_year_32 : AL cX12_year 32 kb_cX12_year_32 := AL.of (m := 20) (by decide +kernel)
theorem dX12_year_34 : decode cX12_year 34 = .ok (.aload_n 0, 1) := o42 ac_cX12_year_32 2 rfl
theorem dX12_year_35 : decode cX12_year 35 = .ok (.dup, 1) := o89 ac_cX12_year_32 3 rfl
theorem dX12_year_36 : decode cX12_year 36 = .ok (.getfield 305, 3) := o180 ac_cX12_year_32 4 1 49 rfl
theorem dX12_year_39 : decode cX12_year 39 = .ok (.iload 4, 2) := o21 ac_cX12_year_32 7 4 rfl
theorem dX12_year_41 : decode cX12_year 41 = .ok (.iadd, 1) := o96 ac_cX12_year_32 9 rfl
theorem dX12_year_42 : decode cX12_year 42 = .ok (.putfield 305, 3) := o181 ac_cX12_year_32 10 1 49 rfl
theorem dX12_year_45 : decode cX12_year 45 = .ok (.aload_n 0, 1) := o42 ac_cX12_year_32 13 rfl
theorem dX12_year_46 : decode cX12_year 46 = .ok (.iload_n 1, 1) := o27 ac_cX12_year_32 14 rfl
theorem dX12_year_47 : decode cX12_year 47 = .ok (.invokevirtual 405, 3) := o182 ac_cX12_year_32 15 1 149 rfl
def kb_cX12_year_48 : List Nat := [1, 149, 42, 180, 0, 110, 16, 23, 46, 42, 180, 0, 107, 16, 23, 46, 160, 0, 6, 132]
theorem ac_cX12_year_48 : AL cX12_year 48 kb_cX12_year_48 := AL.of (m := 20) (by decide +kernel)
theorem dX12_year_50 : decode cX12_year 50 = .ok (.aload_n 0, 1) := o42 ac_cX12_year_48 2 rfl
theorem dX12_year_51 : decode cX12_year 51 = .ok (.getfield 110, 3) := o180 ac_cX12_year_48 3 0 110 rfl
theorem dX12_year_54 : decode cX12_year 54 = .ok (.bipush 23, 2) := o16p ac_cX12_year_48 6 23 rfl rfl
theorem dX12_year_56 : decode cX12_year 56 = .ok (.iaload, 1) := o46 ac_cX12_year_48 8 rfl
theorem dX12_year_57 : decode cX12_year 57 = .ok (.aload_n 0, 1) := o42 ac_cX12_year_48 9 rfl
theorem dX12_year_58 : decode cX12_year 58 = .ok (.getfield 107, 3) := o180 ac_cX12_year_48 10 0 107 rfl
theorem dX12_year_61 : decode cX12_year 61 = .ok (.bipush 23, 2) := o16p ac_cX12_year_48 13 23 rfl rfl
theorem dX12_year_63 : decode cX12_year 63 = .ok (.iaload, 1) := o46 ac_cX12_year_48 15 rfl
def kb_cX12_year_64 : List Nat := [160, 0, 6, 132, 3, 1, 132, 4, 1, 167, 255, 207, 29, 172]
theorem ac_cX12_year_64 : AL cX12_year 64 kb_cX12_year_64 := AL.of (m := 14) (by decide +kernel)
theorem dX12_year_64 : decode cX12_year 64 = .ok (.if_icmp .ne 6, 3) := o160p ac_cX12_year_64 0 0 6 rfl rfl
theorem dX12_year_67 : decode cX12_year 67 = .ok (.iinc 3 1, 3) := o132p ac_cX12_year_64 3 3 1 rfl rfl
theorem dX12_year_70 : decode cX12_year 70 = .ok (.iinc 4 1, 3) := o132p ac_cX12_year_64 6 4 1 rfl rfl
theorem dX12_year_73 : decode cX12_year 73 = .ok (.goto (-49), 3) := o167n ac_cX12_year_64 9 255 207 48 rfl rfl rfl
theorem dX12_year_76 : decode cX12_year 76 = .ok (.iload_n 3, 1) := o29 ac_cX12_year_64 12 rfl
theorem dX12_year_77 : decode cX12_year 77 = .ok (.ireturn, 1) := o172 ac_cX12_year_64 13 rfl
theorem dX12_year_17 : decode cX12_year 17 = .ok (.iconst (-1), 1) := o2 ac_cX12_year_16 1 rfl
theorem dX12_year_18 : decode cX12_year 18 = .ok (.ireturn, 1) := o172 ac_cX12_year_16 2 rfl
def kb_cX12_byteAt_0 : List Nat := [27, 42, 180, 0, 160, 162, 0, 16, 42, 180, 0, 17, 27, 51, 17, 0, 255, 126, 167, 0]
theorem ac_cX12_byteAt_0 : AL cX12_byteAt 0 kb_cX12_byteAt_0 := AL.of (m := 20) (by decide +kernel)
theorem dX12_byteAt_0 : decode cX12_byteAt 0 = .ok (.iload_n 1, 1) := o27 ac_cX12_byteAt_0 0 rfl
theorem dX12_byteAt_1 : decode cX12_byteAt 1 = .ok (.aload_n 0, 1) := o42 ac_cX12_byteAt_0 1 rfl
theorem dX12_byteAt_2 : decode cX12_byteAt 2 = .ok (.getfield 160, 3) := o180 ac_cX12_byteAt_0 2 0 160 rfl
theorem dX12_byteAt_5 : decode cX12_byteAt 5 = .ok (.if_icmp .ge 16, 3) := o162p ac_cX12_byteAt_0 5 0 16 rfl rfl
def kb_cX12_byteAt_16 : List Nat := [255, 126, 167, 0, 4, 3, 172]
theorem ac_cX12_byteAt_16 : AL cX12_byteAt 16 kb_cX12_byteAt_16 := AL.of (m := 7) (by decide +kernel)
theorem dX12_byteAt_21 : decode cX12_byteAt 21 = .ok (.iconst 0, 1) := o3 ac_cX12_byteAt_16 5 rfl
theorem dX12_byteAt_22 : decode cX12_byteAt 22 = .ok (.ireturn, 1) := o172 ac_cX12_byteAt_16 6 rfl
def kb_cX12_token_0 : List Nat := [42, 180, 0, 20, 42, 180, 0, 169, 27, 79, 42, 180, 0, 24, 42, 180, 0, 169, 28, 79]
theorem ac_cX12_token_0 : AL cX12_token 0 kb_cX12_token_0 := AL.of (m := 20) (by decide +kernel)
theorem dX12_token_0 : decode cX12_token 0 = .ok (.aload_n 0, 1) := o42 ac_cX12_token_0 0 rfl
theorem dX12_token_1 : decode cX12_token 1 = .ok (.getfield 20, 3) := o180 ac_cX12_token_0 1 0 20 rfl
theorem dX12_token_4 : decode cX12_token 4 = .ok (.aload_n 0, 1) := o42 ac_cX12_token_0 4 rfl
theorem dX12_token_5 : decode cX12_token 5 = .ok (.getfield 169, 3) := o180 ac_cX12_token_0 5 0 169 rfl
theorem dX12_token_8 : decode cX12_token 8 = .ok (.iload_n 1, 1) := o27 ac_cX12_token_0 8 rfl
theorem dX12_token_9 : decode cX12_token 9 = .ok (.iastore, 1) := o79 ac_cX12_token_0 9 rfl
theorem dX12_token_10 : decode cX12_token 10 = .ok (.aload_n 0, 1) := o42 ac_cX12_token_0 10 rfl
theorem dX12_token_11 : decode cX12_token 11 = .ok (.getfield 24, 3) := o180 ac_cX12_token_0 11 0 24 rfl
theorem dX12_token_14 : decode cX12_token 14 = .ok (.aload_n 0, 1) := o42 ac_cX12_token_0 14 rfl
theorem dX12_token_15 : decode cX12_token 15 = .ok (.getfield 169, 3) := o180 ac_cX12_token_0 15 0 169 rfl
def kb_cX12_token_16 : List Nat := [0, 169, 28, 79, 42, 180, 0, 27, 42, 180, 0, 169, 29, 79, 42, 180, 0, 30, 42, 180]
theorem ac_cX12_token_16 : AL cX12_token 16 kb_cX12_token_16 := AL.of (m := 20) (by decide +kernel)
theorem dX12_token_18 : decode cX12_token 18 = .ok (.iload_n 2, 1) := o28 ac_cX12_token_16 2 rfl
theorem dX12_token_19 : decode cX12_token 19 = .ok (.iastore, 1) := o79 ac_cX12_token_16 3 rfl
theorem dX12_token_20 : decode cX12_token 20 = .ok (.aload_n 0, 1) := o42 ac_cX12_token_16 4 rfl
theorem dX12_token_21 : decode cX12_token 21 = .ok (.getfield 27, 3) := o180 ac_cX12_token_16 5 0 27 rfl
theorem dX12_token_24 : decode cX12_token 24 = .ok (.aload_n 0, 1) := o42 ac_cX12_token_16 8 rfl
theorem dX12_token_25 : decode cX12_token 25 = .ok (.getfield 169, 3) := o180 ac_cX12_token_16 9 0 169 rfl
theorem dX12_token_28 : decode cX12_token 28 = .ok (.iload_n 3, 1) := o29 ac_cX12_token_16 12 rfl
theorem dX12_token_29 : decode cX12_token 29 = .ok (.iastore, 1) := o79 ac_cX12_token_16 13 rfl
theorem dX12_token_30 : decode cX12_token 30 = .ok (.aload_n 0, 1) := o42 ac_cX12_token_16 14 rfl
theorem dX12_token_31 : decode cX12_token 31 = .ok (.getfield 30, 3) := o180 ac_cX12_token_16 15 0 30 rfl
def kb_cX12_token_32 : List Nat := [0, 30, 42, 180, 0, 169, 22, 4, 80, 42, 89, 180, 0, 169, 4, 96, 181, 0, 169, 177]
theorem ac_cX12_token_32 : AL cX12_token 32 kb_cX12_token_32 := AL.of (m := 20) (by decide +kernel)
theorem dX12_token_34 : decode cX12_token 34 = .ok (.aload_n 0, 1) := o42 ac_cX12_token_32 2 rfl
theorem dX12_token_35 : decode cX12_token 35 = .ok (.getfield 169, 3) := o180 ac_cX12_token_32 3 0 169 rfl
theorem dX12_token_38 : decode cX12_token 38 = .ok (.lload 4, 2) := o22 ac_cX12_token_32 6 4 rfl
theorem dX12_token_40 : decode cX12_token 40 = .ok (.lastore, 1) := o80 ac_cX12_token_32 8 rfl
theorem dX12_token_41 : decode cX12_token 41 = .ok (.aload_n 0, 1) := o42 ac_cX12_token_32 9 rfl
theorem dX12_token_42 : decode cX12_token 42 = .ok (.dup, 1) := o89 ac_cX12_token_32 10 rfl
theorem dX12_token_43 : decode cX12_token 43 = .ok (.getfield 169, 3) := o180 ac_cX12_token_32 11 0 169 rfl
theorem dX12_token_46 : decode cX12_token 46 = .ok (.iconst 1, 1) := o4 ac_cX12_token_32 14 rfl
theorem dX12_token_47 : decode cX12_token 47 = .ok (.iadd, 1) := o96 ac_cX12_token_32 15 rfl
def kb_cX12_token_48 : List Nat := [181, 0, 169, 177]
theorem ac_cX12_token_48 : AL cX12_token 48 kb_cX12_token_48 := AL.of (m := 4) (by decide +kernel)
theorem dX12_token_48 : decode cX12_token 48 = .ok (.putfield 169, 3) := o181 ac_cX12_token_48 0 0 169 rfl
theorem dX12_token_51 : decode cX12_token 51 = .ok (.return_, 1) := o177 ac_cX12_token_48 3 rfl
def kb_cX12_cut_0 : List Nat := [42, 3, 181, 0, 169, 3, 60, 42, 180, 0, 169, 17, 1, 144, 163, 1, 24, 42, 27, 182]
theorem ac_cX12_cut_0 : AL cX12_cut 0 kb_cX12_cut_0 := AL.of (m := 20) (by decide +kernel)
theorem dX12_cut_0 : decode cX12_cut 0 = .ok (.aload_n 0, 1) := o42 ac_cX12_cut_0 0 rfl
theorem dX12_cut_1 : decode cX12_cut 1 = .ok (.iconst 0, 1) := o3 ac_cX12_cut_0 1 rfl
theorem dX12_cut_2 : decode cX12_cut 2 = .ok (.putfield 169, 3) := o181 ac_cX12_cut_0 2 0 169 rfl
theorem dX12_cut_5 : decode cX12_cut 5 = .ok (.iconst 0, 1) := o3 ac_cX12_cut_0 5 rfl
theorem dX12_cut_6 : decode cX12_cut 6 = .ok (.istore_n 1, 1) := o60 ac_cX12_cut_0 6 rfl
theorem dX12_cut_7 : decode cX12_cut 7 = .ok (.aload_n 0, 1) := o42 ac_cX12_cut_0 7 rfl
theorem dX12_cut_8 : decode cX12_cut 8 = .ok (.getfield 169, 3) := o180 ac_cX12_cut_0 8 0 169 rfl
theorem dX12_cut_11 : decode cX12_cut 11 = .ok (.sipush 400, 3) := o17p ac_cX12_cut_0 11 1 144 rfl rfl
theorem dX12_cut_14 : decode cX12_cut 14 = .ok (.if_icmp .gt 280, 3) := o163p ac_cX12_cut_0 14 1 24 rfl rfl
def kb_cX12_cut_16 : List Nat := [24, 42, 27, 182, 0, 172, 61, 27, 42, 180, 0, 160, 161, 0, 15, 42, 3, 42, 180, 0]
theorem ac_cX12_cut_16 : AL cX12_cut 16 kb_cX12_cut_16 := AL.of (m := 20) (by decide +kernel)
theorem dX12_cut_17 : decode cX12_cut 17 = .ok (.aload_n 0, 1) := o42 ac_cX12_cut_16 1 rfl
theorem dX12_cut_18 : decode cX12_cut 18 = .ok (.iload_n 1, 1) := o27 ac_cX12_cut_16 2 rfl
theorem dX12_cut_19 : decode cX12_cut 19 = .ok (.invokevirtual 172, 3) := o182 ac_cX12_cut_16 3 0 172 rfl
theorem dX12_cut_22 : decode cX12_cut 22 = .ok (.istore_n 2, 1) := o61 ac_cX12_cut_16 6 rfl
theorem dX12_cut_23 : decode cX12_cut 23 = .ok (.iload_n 1, 1) := o27 ac_cX12_cut_16 7 rfl
theorem dX12_cut_24 : decode cX12_cut 24 = .ok (.aload_n 0, 1) := o42 ac_cX12_cut_16 8 rfl
theorem dX12_cut_25 : decode cX12_cut 25 = .ok (.getfield 160, 3) := o180 ac_cX12_cut_16 9 0 160 rfl
theorem dX12_cut_28 : decode cX12_cut 28 = .ok (.if_icmp .lt 15, 3) := o161p ac_cX12_cut_16 12 0 15 rfl rfl
theorem dX12_cut_31 : decode cX12_cut 31 = .ok (.aload_n 0, 1) := o42 ac_cX12_cut_16 15 rfl
def kb_cX12_cut_32 : List Nat := [3, 42, 180, 0, 160, 3, 9, 182, 0, 176, 177, 28, 16, 9, 159, 0, 21, 28, 16, 10]
theorem ac_cX12_cut_32 : AL cX12_cut 32 kb_cX12_cut_32 := AL.of (m := 20) (by decide +kernel)
theorem dX12_cut_32 : decode cX12_cut 32 = .ok (.iconst 0, 1) := o3 ac_cX12_cut_32 0 rfl
theorem dX12_cut_33 : decode cX12_cut 33 = .ok (.aload_n 0, 1) := o42 ac_cX12_cut_32 1 rfl
theorem dX12_cut_34 : decode cX12_cut 34 = .ok (.getfield 160, 3) := o180 ac_cX12_cut_32 2 0 160 rfl
theorem dX12_cut_37 : decode cX12_cut 37 = .ok (.iconst 0, 1) := o3 ac_cX12_cut_32 5 rfl
theorem dX12_cut_38 : decode cX12_cut 38 = .ok (.lconst 0, 1) := o9 ac_cX12_cut_32 6 rfl
theorem dX12_cut_39 : decode cX12_cut 39 = .ok (.invokevirtual 176, 3) := o182 ac_cX12_cut_32 7 0 176 rfl
theorem dX12_cut_42 : decode cX12_cut 42 = .ok (.return_, 1) := o177 ac_cX12_cut_32 10 rfl
def kb_cX12_is_0 : List Nat := [42, 180, 0, 191, 154, 0, 20, 42, 180, 0, 20, 42, 180, 0, 194, 46, 27, 160, 0, 7]
theorem ac_cX12_is_0 : AL cX12_is 0 kb_cX12_is_0 := AL.of (m := 20) (by decide +kernel)
theorem dX12_is_0 : decode cX12_is 0 = .ok (.aload_n 0, 1) := o42 ac_cX12_is_0 0 rfl
theorem dX12_is_1 : decode cX12_is 1 = .ok (.getfield 191, 3) := o180 ac_cX12_is_0 1 0 191 rfl
theorem dX12_is_4 : decode cX12_is 4 = .ok (.ifCond .ne 20, 3) := o154p ac_cX12_is_0 4 0 20 rfl rfl
theorem dX12_is_7 : decode cX12_is 7 = .ok (.aload_n 0, 1) := o42 ac_cX12_is_0 7 rfl
theorem dX12_is_8 : decode cX12_is 8 = .ok (.getfield 20, 3) := o180 ac_cX12_is_0 8 0 20 rfl
theorem dX12_is_11 : decode cX12_is 11 = .ok (.aload_n 0, 1) := o42 ac_cX12_is_0 11 rfl
theorem dX12_is_12 : decode cX12_is 12 = .ok (.getfield 194, 3) := o180 ac_cX12_is_0 12 0 194 rfl
theorem dX12_is_15 : decode cX12_is 15 = .ok (.iaload, 1) := o46 ac_cX12_is_0 15 rfl
def kb_cX12_is_16 : List Nat := [27, 160, 0, 7, 4, 167, 0, 4, 3, 172]
theorem ac_cX12_is_16 : AL cX12_is 16 kb_cX12_is_16 := AL.of (m := 10) (by decide +kernel)
theorem dX12_is_16 : decode cX12_is 16 = .ok (.iload_n 1, 1) := o27 ac_cX12_is_16 0 rfl
theorem dX12_is_17 : decode cX12_is 17 = .ok (.if_icmp .ne 7, 3) := o160p ac_cX12_is_16 1 0 7 rfl rfl
theorem dX12_is_20 : decode cX12_is 20 = .ok (.iconst 1, 1) := o4 ac_cX12_is_16 4 rfl
theorem dX12_is_21 : decode cX12_is 21 = .ok (.goto 4, 3) := o167p ac_cX12_is_16 5 0 4 rfl rfl
theorem dX12_is_25 : decode cX12_is 25 = .ok (.ireturn, 1) := o172 ac_cX12_is_16 9 rfl
def kb_cX12_plain_0 : List Nat := [42, 180, 0, 43, 27, 3, 79, 42, 180, 0, 55, 27, 3, 79, 42, 180, 0, 64, 27, 4]
theorem ac_cX12_plain_0 : AL cX12_plain 0 kb_cX12_plain_0 := AL.of (m := 20) (by decide +kernel)
theorem dX12_plain_0 : decode cX12_plain 0 = .ok (.aload_n 0, 1) := o42 ac_cX12_plain_0 0 rfl
theorem dX12_plain_1 : decode cX12_plain 1 = .ok (.getfield 43, 3) := o180 ac_cX12_plain_0 1 0 43 rfl
theorem dX12_plain_4 : decode cX12_plain 4 = .ok (.iload_n 1, 1) := o27 ac_cX12_plain_0 4 rfl
theorem dX12_plain_5 : decode cX12_plain 5 = .ok (.iconst 0, 1) := o3 ac_cX12_plain_0 5 rfl
theorem dX12_plain_6 : decode cX12_plain 6 = .ok (.iastore, 1) := o79 ac_cX12_plain_0 6 rfl
theorem dX12_plain_7 : decode cX12_plain 7 = .ok (.aload_n 0, 1) := o42 ac_cX12_plain_0 7 rfl
theorem dX12_plain_8 : decode cX12_plain 8 = .ok (.getfield 55, 3) := o180 ac_cX12_plain_0 8 0 55 rfl
theorem dX12_plain_11 : decode cX12_plain 11 = .ok (.iload_n 1, 1) := o27 ac_cX12_plain_0 11 rfl
theorem dX12_plain_12 : decode cX12_plain 12 = .ok (.iconst 0, 1) := o3 ac_cX12_plain_0 12 rfl
theorem dX12_plain_13 : decode cX12_plain 13 = .ok (.iastore, 1) := o79 ac_cX12_plain_0 13 rfl
theorem dX12_plain_14 : decode cX12_plain 14 = .ok (.aload_n 0, 1) := o42 ac_cX12_plain_0 14 rfl
theorem dX12_plain_15 : decode cX12_plain 15 = .ok (.getfield 64, 3) := o180 ac_cX12_plain_0 15 0 64 rfl
def kb_cX12_plain_16 : List Nat := [0, 64, 27, 4, 79, 42, 180, 0, 67, 27, 3, 79, 3, 61, 28, 7, 162, 0, 31, 42]
theorem ac_cX12_plain_16 : AL cX12_plain 16 kb_cX12_plain_16 := AL.of (m := 20) (by decide +kernel)
theorem dX12_plain_18 : decode cX12_plain 18 = .ok (.iload_n 1, 1) := o27 ac_cX12_plain_16 2 rfl
theorem dX12_plain_19 : decode cX12_plain 19 = .ok (.iconst 1, 1) := o4 ac_cX12_plain_16 3 rfl
theorem dX12_plain_20 : decode cX12_plain 20 = .ok (.iastore, 1) := o79 ac_cX12_plain_16 4 rfl
theorem dX12_plain_21 : decode cX12_plain 21 = .ok (.aload_n 0, 1) := o42 ac_cX12_plain_16 5 rfl
theorem dX12_plain_22 : decode cX12_plain 22 = .ok (.getfield 67, 3) := o180 ac_cX12_plain_16 6 0 67 rfl
theorem dX12_plain_25 : decode cX12_plain 25 = .ok (.iload_n 1, 1) := o27 ac_cX12_plain_16 9 rfl
theorem dX12_plain_26 : decode cX12_plain 26 = .ok (.iconst 0, 1) := o3 ac_cX12_plain_16 10 rfl
theorem dX12_plain_27 : decode cX12_plain 27 = .ok (.iastore, 1) := o79 ac_cX12_plain_16 11 rfl
theorem dX12_plain_28 : decode cX12_plain 28 = .ok (.iconst 0, 1) := o3 ac_cX12_plain_16 12 rfl
theorem dX12_plain_29 : decode cX12_plain 29 = .ok (.istore_n 2, 1) := o61 ac_cX12_plain_16 13 rfl
theorem dX12_plain_30 : decode cX12_plain 30 = .ok (.iload_n 2, 1) := o28 ac_cX12_plain_16 14 rfl
theorem dX12_plain_31 : decode cX12_plain 31 = .ok (.iconst 4, 1) := o7 ac_cX12_plain_16 15 rfl
def kb_cX12_plain_32 : List Nat := [162, 0, 31, 42, 180, 0, 70, 7, 27, 104, 28, 96, 3, 79, 42, 180, 0, 73, 7, 27]
theorem ac_cX12_plain_32 : AL cX12_plain 32 kb_cX12_plain_32 := AL.of (m := 20) (by decide +kernel)
theorem dX12_plain_32 : decode cX12_plain 32 = .ok (.if_icmp .ge 31, 3) := o162p ac_cX12_plain_32 0 0 31 rfl rfl
theorem dX12_plain_35 : decode cX12_plain 35 = .ok (.aload_n 0, 1) := o42 ac_cX12_plain_32 3 rfl
theorem dX12_plain_36 : decode cX12_plain 36 = .ok (.getfield 70, 3) := o180 ac_cX12_plain_32 4 0 70 rfl
theorem dX12_plain_39 : decode cX12_plain 39 = .ok (.iconst 4, 1) := o7 ac_cX12_plain_32 7 rfl
theorem dX12_plain_40 : decode cX12_plain 40 = .ok (.iload_n 1, 1) := o27 ac_cX12_plain_32 8 rfl
theorem dX12_plain_41 : decode cX12_plain 41 = .ok (.imul, 1) := o104 ac_cX12_plain_32 9 rfl
theorem dX12_plain_42 : decode cX12_plain 42 = .ok (.iload_n 2, 1) := o28 ac_cX12_plain_32 10 rfl
theorem dX12_plain_43 : decode cX12_plain 43 = .ok (.iadd, 1) := o96 ac_cX12_plain_32 11 rfl
theorem dX12_plain_44 : decode cX12_plain 44 = .ok (.iconst 0, 1) := o3 ac_cX12_plain_32 12 rfl
theorem dX12_plain_45 : decode cX12_plain 45 = .ok (.iastore, 1) := o79 ac_cX12_plain_32 13 rfl
theorem dX12_plain_46 : decode cX12_plain 46 = .ok (.aload_n 0, 1) := o42 ac_cX12_plain_32 14 rfl
theorem dX12_plain_47 : decode cX12_plain 47 = .ok (.getfield 73, 3) := o180 ac_cX12_plain_32 15 0 73 rfl
def kb_cX12_plain_48 : List Nat := [0, 73, 7, 27, 104, 28, 96, 3, 79, 132, 2, 1, 167, 255, 226, 177]
theorem ac_cX12_plain_48 : AL cX12_plain 48 kb_cX12_plain_48 := AL.of (m := 16) (by decide +kernel)
theorem dX12_plain_50 : decode cX12_plain 50 = .ok (.iconst 4, 1) := o7 ac_cX12_plain_48 2 rfl
theorem dX12_plain_51 : decode cX12_plain 51 = .ok (.iload_n 1, 1) := o27 ac_cX12_plain_48 3 rfl
theorem dX12_plain_52 : decode cX12_plain 52 = .ok (.imul, 1) := o104 ac_cX12_plain_48 4 rfl
theorem dX12_plain_53 : decode cX12_plain 53 = .ok (.iload_n 2, 1) := o28 ac_cX12_plain_48 5 rfl
theorem dX12_plain_54 : decode cX12_plain 54 = .ok (.iadd, 1) := o96 ac_cX12_plain_48 6 rfl
theorem dX12_plain_55 : decode cX12_plain 55 = .ok (.iconst 0, 1) := o3 ac_cX12_plain_48 7 rfl
theorem dX12_plain_56 : decode cX12_plain 56 = .ok (.iastore, 1) := o79 ac_cX12_plain_48 8 rfl
theorem dX12_plain_57 : decode cX12_plain 57 = .ok (.iinc 2 1, 3) := o132p ac_cX12_plain_48 9 2 1 rfl rfl
theorem dX12_plain_60 : decode cX12_plain 60 = .ok (.goto (-30), 3) := o167n ac_cX12_plain_48 12 255 226 29 rfl rfl rfl
theorem dX12_plain_63 : decode cX12_plain 63 = .ok (.return_, 1) := o177 ac_cX12_plain_48 15 rfl
def kb_cX12_begins_0 : List Nat := [3, 60, 27, 16, 29, 162, 0, 16, 42, 180, 0, 110, 27, 3, 79, 132, 1, 1, 167, 255]
theorem ac_cX12_begins_0 : AL cX12_begins 0 kb_cX12_begins_0 := AL.of (m := 20) (by decide +kernel)
theorem dX12_begins_0 : decode cX12_begins 0 = .ok (.iconst 0, 1) := o3 ac_cX12_begins_0 0 rfl
theorem dX12_begins_1 : decode cX12_begins 1 = .ok (.istore_n 1, 1) := o60 ac_cX12_begins_0 1 rfl
theorem dX12_begins_2 : decode cX12_begins 2 = .ok (.iload_n 1, 1) := o27 ac_cX12_begins_0 2 rfl
theorem dX12_begins_3 : decode cX12_begins 3 = .ok (.bipush 29, 2) := o16p ac_cX12_begins_0 3 29 rfl rfl
theorem dX12_begins_5 : decode cX12_begins 5 = .ok (.if_icmp .ge 16, 3) := o162p ac_cX12_begins_0 5 0 16 rfl rfl
theorem dX12_begins_8 : decode cX12_begins 8 = .ok (.aload_n 0, 1) := o42 ac_cX12_begins_0 8 rfl
theorem dX12_begins_9 : decode cX12_begins 9 = .ok (.getfield 110, 3) := o180 ac_cX12_begins_0 9 0 110 rfl
theorem dX12_begins_12 : decode cX12_begins 12 = .ok (.iload_n 1, 1) := o27 ac_cX12_begins_0 12 rfl
theorem dX12_begins_13 : decode cX12_begins 13 = .ok (.iconst 0, 1) := o3 ac_cX12_begins_0 13 rfl
theorem dX12_begins_14 : decode cX12_begins 14 = .ok (.iastore, 1) := o79 ac_cX12_begins_0 14 rfl
theorem dX12_begins_15 : decode cX12_begins 15 = .ok (.iinc 1 1, 3) := o132p ac_cX12_begins_0 15 1 1 rfl rfl
def kb_cX12_begins_16 : List Nat := [1, 1, 167, 255, 240, 3, 60, 27, 42, 180, 0, 43, 42, 180, 0, 221, 46, 162, 0, 32]
theorem ac_cX12_begins_16 : AL cX12_begins 16 kb_cX12_begins_16 := AL.of (m := 20) (by decide +kernel)
theorem dX12_begins_18 : decode cX12_begins 18 = .ok (.goto (-16), 3) := o167n ac_cX12_begins_16 2 255 240 15 rfl rfl rfl
theorem dX12_begins_21 : decode cX12_begins 21 = .ok (.iconst 0, 1) := o3 ac_cX12_begins_16 5 rfl
theorem dX12_begins_22 : decode cX12_begins 22 = .ok (.istore_n 1, 1) := o60 ac_cX12_begins_16 6 rfl
theorem dX12_begins_23 : decode cX12_begins 23 = .ok (.iload_n 1, 1) := o27 ac_cX12_begins_16 7 rfl
theorem dX12_begins_24 : decode cX12_begins 24 = .ok (.aload_n 0, 1) := o42 ac_cX12_begins_16 8 rfl
theorem dX12_begins_25 : decode cX12_begins 25 = .ok (.getfield 43, 3) := o180 ac_cX12_begins_16 9 0 43 rfl
theorem dX12_begins_28 : decode cX12_begins 28 = .ok (.aload_n 0, 1) := o42 ac_cX12_begins_16 12 rfl
theorem dX12_begins_29 : decode cX12_begins 29 = .ok (.getfield 221, 3) := o180 ac_cX12_begins_16 13 0 221 rfl
def kb_cX12_begins_32 : List Nat := [46, 162, 0, 32, 42, 180, 0, 110, 16, 7, 27, 96, 42, 180, 0, 52, 16, 7, 42, 180]
theorem ac_cX12_begins_32 : AL cX12_begins 32 kb_cX12_begins_32 := AL.of (m := 20) (by decide +kernel)
theorem dX12_begins_32 : decode cX12_begins 32 = .ok (.iaload, 1) := o46 ac_cX12_begins_32 0 rfl
theorem dX12_begins_33 : decode cX12_begins 33 = .ok (.if_icmp .ge 32, 3) := o162p ac_cX12_begins_32 1 0 32 rfl rfl
def kb_cX12_begins_64 : List Nat := [217, 42, 180, 0, 110, 16, 26, 42, 180, 0, 55, 42, 180, 0, 221, 46, 158, 0, 7, 3]
theorem ac_cX12_begins_64 : AL cX12_begins 64 kb_cX12_begins_64 := AL.of (m := 20) (by decide +kernel)
theorem dX12_begins_65 : decode cX12_begins 65 = .ok (.aload_n 0, 1) := o42 ac_cX12_begins_64 1 rfl
theorem dX12_begins_66 : decode cX12_begins 66 = .ok (.getfield 110, 3) := o180 ac_cX12_begins_64 2 0 110 rfl
theorem dX12_begins_69 : decode cX12_begins 69 = .ok (.bipush 26, 2) := o16p ac_cX12_begins_64 5 26 rfl rfl
theorem dX12_begins_71 : decode cX12_begins 71 = .ok (.aload_n 0, 1) := o42 ac_cX12_begins_64 7 rfl
theorem dX12_begins_72 : decode cX12_begins 72 = .ok (.getfield 55, 3) := o180 ac_cX12_begins_64 8 0 55 rfl
theorem dX12_begins_75 : decode cX12_begins 75 = .ok (.aload_n 0, 1) := o42 ac_cX12_begins_64 11 rfl
theorem dX12_begins_76 : decode cX12_begins 76 = .ok (.getfield 221, 3) := o180 ac_cX12_begins_64 12 0 221 rfl
theorem dX12_begins_79 : decode cX12_begins 79 = .ok (.iaload, 1) := o46 ac_cX12_begins_64 15 rfl
def kb_cX12_begins_80 : List Nat := [158, 0, 7, 3, 167, 0, 5, 16, 254, 79, 42, 180, 0, 110, 16, 28, 2, 79, 42, 42]
theorem ac_cX12_begins_80 : AL cX12_begins 80 kb_cX12_begins_80 := AL.of (m := 20) (by decide +kernel)
theorem dX12_begins_80 : decode cX12_begins 80 = .ok (.ifCond .le 7, 3) := o158p ac_cX12_begins_80 0 0 7 rfl rfl
theorem dX12_begins_87 : decode cX12_begins 87 = .ok (.bipush (-2), 2) := o16n ac_cX12_begins_80 7 254 1 rfl rfl rfl
theorem dX12_begins_89 : decode cX12_begins 89 = .ok (.iastore, 1) := o79 ac_cX12_begins_80 9 rfl
theorem dX12_begins_90 : decode cX12_begins 90 = .ok (.aload_n 0, 1) := o42 ac_cX12_begins_80 10 rfl
theorem dX12_begins_91 : decode cX12_begins 91 = .ok (.getfield 110, 3) := o180 ac_cX12_begins_80 11 0 110 rfl
theorem dX12_begins_94 : decode cX12_begins 94 = .ok (.bipush 28, 2) := o16p ac_cX12_begins_80 14 28 rfl rfl
def kb_cX12_begins_96 : List Nat := [2, 79, 42, 42, 180, 0, 67, 42, 180, 0, 221, 46, 181, 1, 49, 42, 3, 181, 1, 52]
theorem ac_cX12_begins_96 : AL cX12_begins 96 kb_cX12_begins_96 := AL.of (m := 20) (by decide +kernel)
theorem dX12_begins_96 : decode cX12_begins 96 = .ok (.iconst (-1), 1) := o2 ac_cX12_begins_96 0 rfl
theorem dX12_begins_97 : decode cX12_begins 97 = .ok (.iastore, 1) := o79 ac_cX12_begins_96 1 rfl
theorem dX12_begins_98 : decode cX12_begins 98 = .ok (.aload_n 0, 1) := o42 ac_cX12_begins_96 2 rfl
theorem dX12_begins_99 : decode cX12_begins 99 = .ok (.aload_n 0, 1) := o42 ac_cX12_begins_96 3 rfl
theorem dX12_begins_100 : decode cX12_begins 100 = .ok (.getfield 67, 3) := o180 ac_cX12_begins_96 4 0 67 rfl
theorem dX12_begins_103 : decode cX12_begins 103 = .ok (.aload_n 0, 1) := o42 ac_cX12_begins_96 7 rfl
theorem dX12_begins_104 : decode cX12_begins 104 = .ok (.getfield 221, 3) := o180 ac_cX12_begins_96 8 0 221 rfl
theorem dX12_begins_107 : decode cX12_begins 107 = .ok (.iaload, 1) := o46 ac_cX12_begins_96 11 rfl
theorem dX12_begins_108 : decode cX12_begins 108 = .ok (.putfield 305, 3) := o181 ac_cX12_begins_96 12 1 49 rfl
theorem dX12_begins_111 : decode cX12_begins 111 = .ok (.aload_n 0, 1) := o42 ac_cX12_begins_96 15 rfl
def kb_cX12_begins_112 : List Nat := [3, 181, 1, 52, 177]
theorem ac_cX12_begins_112 : AL cX12_begins 112 kb_cX12_begins_112 := AL.of (m := 5) (by decide +kernel)
theorem dX12_begins_112 : decode cX12_begins 112 = .ok (.iconst 0, 1) := o3 ac_cX12_begins_112 0 rfl
theorem dX12_begins_113 : decode cX12_begins 113 = .ok (.putfield 308, 3) := o181 ac_cX12_begins_112 1 1 52 rfl
theorem dX12_begins_116 : decode cX12_begins 116 = .ok (.return_, 1) := o177 ac_cX12_begins_112 4 rfl
def kb_cX12_read_0 : List Nat := [42, 42, 180, 0, 154, 181, 0, 160, 3, 60, 27, 42, 180, 0, 160, 162, 0, 21, 42, 180]
theorem ac_cX12_read_0 : AL cX12_read 0 kb_cX12_read_0 := AL.of (m := 20) (by decide +kernel)
theorem dX12_read_0 : decode cX12_read 0 = .ok (.aload_n 0, 1) := o42 ac_cX12_read_0 0 rfl
theorem dX12_read_1 : decode cX12_read 1 = .ok (.aload_n 0, 1) := o42 ac_cX12_read_0 1 rfl
theorem dX12_read_2 : decode cX12_read 2 = .ok (.getfield 154, 3) := o180 ac_cX12_read_0 2 0 154 rfl
theorem dX12_read_5 : decode cX12_read 5 = .ok (.putfield 160, 3) := o181 ac_cX12_read_0 5 0 160 rfl
theorem dX12_read_8 : decode cX12_read 8 = .ok (.iconst 0, 1) := o3 ac_cX12_read_0 8 rfl
theorem dX12_read_9 : decode cX12_read 9 = .ok (.istore_n 1, 1) := o60 ac_cX12_read_0 9 rfl
theorem dX12_read_10 : decode cX12_read 10 = .ok (.iload_n 1, 1) := o27 ac_cX12_read_0 10 rfl
theorem dX12_read_11 : decode cX12_read 11 = .ok (.aload_n 0, 1) := o42 ac_cX12_read_0 11 rfl
theorem dX12_read_12 : decode cX12_read 12 = .ok (.getfield 160, 3) := o180 ac_cX12_read_0 12 0 160 rfl
theorem dX12_read_15 : decode cX12_read 15 = .ok (.if_icmp .ge 21, 3) := o162p ac_cX12_read_0 15 0 21 rfl rfl
def kb_cX12_read_32 : List Nat := [1, 167, 255, 233, 42, 3, 181, 0, 154, 42, 182, 0, 215, 42, 3, 181, 0, 194, 42, 3]
theorem ac_cX12_read_32 : AL cX12_read 32 kb_cX12_read_32 := AL.of (m := 20) (by decide +kernel)
theorem dX12_read_36 : decode cX12_read 36 = .ok (.aload_n 0, 1) := o42 ac_cX12_read_32 4 rfl
theorem dX12_read_37 : decode cX12_read 37 = .ok (.iconst 0, 1) := o3 ac_cX12_read_32 5 rfl
theorem dX12_read_38 : decode cX12_read 38 = .ok (.putfield 154, 3) := o181 ac_cX12_read_32 6 0 154 rfl
theorem dX12_read_41 : decode cX12_read 41 = .ok (.aload_n 0, 1) := o42 ac_cX12_read_32 9 rfl
theorem dX12_read_42 : decode cX12_read 42 = .ok (.invokevirtual 215, 3) := o182 ac_cX12_read_32 10 0 215 rfl
theorem dX12_read_45 : decode cX12_read 45 = .ok (.aload_n 0, 1) := o42 ac_cX12_read_32 13 rfl
theorem dX12_read_46 : decode cX12_read 46 = .ok (.iconst 0, 1) := o3 ac_cX12_read_32 14 rfl
theorem dX12_read_47 : decode cX12_read 47 = .ok (.putfield 194, 3) := o181 ac_cX12_read_32 15 0 194 rfl
def kb_cX12_read_48 : List Nat := [0, 194, 42, 3, 181, 0, 218, 42, 3, 181, 0, 191, 42, 3, 181, 0, 200, 42, 4, 42]
theorem ac_cX12_read_48 : AL cX12_read 48 kb_cX12_read_48 := AL.of (m := 20) (by decide +kernel)
theorem dX12_read_50 : decode cX12_read 50 = .ok (.aload_n 0, 1) := o42 ac_cX12_read_48 2 rfl
theorem dX12_read_51 : decode cX12_read 51 = .ok (.iconst 0, 1) := o3 ac_cX12_read_48 3 rfl
theorem dX12_read_52 : decode cX12_read 52 = .ok (.putfield 218, 3) := o181 ac_cX12_read_48 4 0 218 rfl
theorem dX12_read_55 : decode cX12_read 55 = .ok (.aload_n 0, 1) := o42 ac_cX12_read_48 7 rfl
theorem dX12_read_56 : decode cX12_read 56 = .ok (.iconst 0, 1) := o3 ac_cX12_read_48 8 rfl
theorem dX12_read_57 : decode cX12_read 57 = .ok (.putfield 191, 3) := o181 ac_cX12_read_48 9 0 191 rfl
theorem dX12_read_60 : decode cX12_read 60 = .ok (.aload_n 0, 1) := o42 ac_cX12_read_48 12 rfl
theorem dX12_read_61 : decode cX12_read 61 = .ok (.iconst 0, 1) := o3 ac_cX12_read_48 13 rfl
theorem dX12_read_62 : decode cX12_read 62 = .ok (.putfield 200, 3) := o181 ac_cX12_read_48 14 0 200 rfl
def kb_cX12_read_64 : List Nat := [200, 42, 4, 42, 180, 0, 221, 100, 181, 0, 224, 42, 3, 181, 0, 227, 42, 42, 180, 0]
theorem ac_cX12_read_64 : AL cX12_read 64 kb_cX12_read_64 := AL.of (m := 20) (by decide +kernel)
theorem dX12_read_65 : decode cX12_read 65 = .ok (.aload_n 0, 1) := o42 ac_cX12_read_64 1 rfl
theorem dX12_read_66 : decode cX12_read 66 = .ok (.iconst 1, 1) := o4 ac_cX12_read_64 2 rfl
theorem dX12_read_67 : decode cX12_read 67 = .ok (.aload_n 0, 1) := o42 ac_cX12_read_64 3 rfl
theorem dX12_read_68 : decode cX12_read 68 = .ok (.getfield 221, 3) := o180 ac_cX12_read_64 4 0 221 rfl
theorem dX12_read_71 : decode cX12_read 71 = .ok (.isub, 1) := o100 ac_cX12_read_64 7 rfl
theorem dX12_read_72 : decode cX12_read 72 = .ok (.putfield 224, 3) := o181 ac_cX12_read_64 8 0 224 rfl
theorem dX12_read_75 : decode cX12_read 75 = .ok (.aload_n 0, 1) := o42 ac_cX12_read_64 11 rfl
theorem dX12_read_76 : decode cX12_read 76 = .ok (.iconst 0, 1) := o3 ac_cX12_read_64 12 rfl
theorem dX12_read_77 : decode cX12_read 77 = .ok (.putfield 227, 3) := o181 ac_cX12_read_64 13 0 227 rfl
def kb_cX12_read_80 : List Nat := [42, 42, 180, 0, 224, 182, 0, 140, 42, 17, 0, 130, 42, 180, 0, 224, 104, 181, 0, 230]
theorem ac_cX12_read_80 : AL cX12_read 80 kb_cX12_read_80 := AL.of (m := 20) (by decide +kernel)
theorem dX12_read_80 : decode cX12_read 80 = .ok (.aload_n 0, 1) := o42 ac_cX12_read_80 0 rfl
theorem dX12_read_81 : decode cX12_read 81 = .ok (.aload_n 0, 1) := o42 ac_cX12_read_80 1 rfl
theorem dX12_read_82 : decode cX12_read 82 = .ok (.getfield 224, 3) := o180 ac_cX12_read_80 2 0 224 rfl
theorem dX12_read_85 : decode cX12_read 85 = .ok (.invokevirtual 140, 3) := o182 ac_cX12_read_80 5 0 140 rfl
theorem dX12_read_88 : decode cX12_read 88 = .ok (.aload_n 0, 1) := o42 ac_cX12_read_80 8 rfl
theorem dX12_read_89 : decode cX12_read 89 = .ok (.sipush 130, 3) := o17p ac_cX12_read_80 9 0 130 rfl rfl
theorem dX12_read_92 : decode cX12_read 92 = .ok (.aload_n 0, 1) := o42 ac_cX12_read_80 12 rfl
theorem dX12_read_93 : decode cX12_read 93 = .ok (.getfield 224, 3) := o180 ac_cX12_read_80 13 0 224 rfl
def kb_cX12_read_96 : List Nat := [104, 181, 0, 230, 42, 17, 1, 164, 42, 180, 0, 224, 104, 181, 0, 233, 42, 180, 0, 191]
theorem ac_cX12_read_96 : AL cX12_read 96 kb_cX12_read_96 := AL.of (m := 20) (by decide +kernel)
theorem dX12_read_96 : decode cX12_read 96 = .ok (.imul, 1) := o104 ac_cX12_read_96 0 rfl
theorem dX12_read_97 : decode cX12_read 97 = .ok (.putfield 230, 3) := o181 ac_cX12_read_96 1 0 230 rfl
theorem dX12_read_100 : decode cX12_read 100 = .ok (.aload_n 0, 1) := o42 ac_cX12_read_96 4 rfl
theorem dX12_read_101 : decode cX12_read 101 = .ok (.sipush 420, 3) := o17p ac_cX12_read_96 5 1 164 rfl rfl
theorem dX12_read_104 : decode cX12_read 104 = .ok (.aload_n 0, 1) := o42 ac_cX12_read_96 8 rfl
theorem dX12_read_105 : decode cX12_read 105 = .ok (.getfield 224, 3) := o180 ac_cX12_read_96 9 0 224 rfl
theorem dX12_read_108 : decode cX12_read 108 = .ok (.imul, 1) := o104 ac_cX12_read_96 12 rfl
theorem dX12_read_109 : decode cX12_read 109 = .ok (.putfield 233, 3) := o181 ac_cX12_read_96 13 0 233 rfl
def kb_cX12_read_112 : List Nat := [42, 180, 0, 191, 154, 0, 18, 42, 3, 182, 0, 209, 154, 0, 10, 42, 182, 0, 236, 167]
theorem ac_cX12_read_112 : AL cX12_read 112 kb_cX12_read_112 := AL.of (m := 20) (by decide +kernel)
theorem dX12_read_112 : decode cX12_read 112 = .ok (.aload_n 0, 1) := o42 ac_cX12_read_112 0 rfl
theorem dX12_read_113 : decode cX12_read 113 = .ok (.getfield 191, 3) := o180 ac_cX12_read_112 1 0 191 rfl
theorem dX12_read_116 : decode cX12_read 116 = .ok (.ifCond .ne 18, 3) := o154p ac_cX12_read_112 4 0 18 rfl rfl
theorem dX12_read_119 : decode cX12_read 119 = .ok (.aload_n 0, 1) := o42 ac_cX12_read_112 7 rfl
theorem dX12_read_120 : decode cX12_read 120 = .ok (.iconst 0, 1) := o3 ac_cX12_read_112 8 rfl
theorem dX12_read_121 : decode cX12_read 121 = .ok (.invokevirtual 209, 3) := o182 ac_cX12_read_112 9 0 209 rfl
theorem dX12_read_124 : decode cX12_read 124 = .ok (.ifCond .ne 10, 3) := o154p ac_cX12_read_112 12 0 10 rfl rfl
def kb_cX12_read_128 : List Nat := [182, 0, 236, 167, 255, 237, 42, 42, 180, 0, 191, 158, 0, 10, 42, 180, 0, 197, 167, 0]
theorem ac_cX12_read_128 : AL cX12_read 128 kb_cX12_read_128 := AL.of (m := 20) (by decide +kernel)
theorem dX12_read_134 : decode cX12_read 134 = .ok (.aload_n 0, 1) := o42 ac_cX12_read_128 6 rfl
theorem dX12_read_135 : decode cX12_read 135 = .ok (.aload_n 0, 1) := o42 ac_cX12_read_128 7 rfl
theorem dX12_read_136 : decode cX12_read 136 = .ok (.getfield 191, 3) := o180 ac_cX12_read_128 8 0 191 rfl
theorem dX12_read_139 : decode cX12_read 139 = .ok (.ifCond .le 10, 3) := o158p ac_cX12_read_128 11 0 10 rfl rfl
def kb_cX12_read_144 : List Nat := [0, 197, 167, 0, 18, 42, 180, 0, 200, 158, 0, 10, 42, 180, 0, 203, 167, 0, 4, 2]
theorem ac_cX12_read_144 : AL cX12_read 144 kb_cX12_read_144 := AL.of (m := 20) (by decide +kernel)
theorem dX12_read_149 : decode cX12_read 149 = .ok (.aload_n 0, 1) := o42 ac_cX12_read_144 5 rfl
theorem dX12_read_150 : decode cX12_read 150 = .ok (.getfield 200, 3) := o180 ac_cX12_read_144 6 0 200 rfl
theorem dX12_read_153 : decode cX12_read 153 = .ok (.ifCond .le 10, 3) := o158p ac_cX12_read_144 9 0 10 rfl rfl
def kb_cX12_read_160 : List Nat := [167, 0, 4, 2, 181, 0, 37, 42, 180, 0, 191, 158, 0, 8, 42, 180, 0, 191, 172, 42]
theorem ac_cX12_read_160 : AL cX12_read 160 kb_cX12_read_160 := AL.of (m := 20) (by decide +kernel)
theorem dX12_read_163 : decode cX12_read 163 = .ok (.iconst (-1), 1) := o2 ac_cX12_read_160 3 rfl
theorem dX12_read_164 : decode cX12_read 164 = .ok (.putfield 37, 3) := o181 ac_cX12_read_160 4 0 37 rfl
theorem dX12_read_167 : decode cX12_read 167 = .ok (.aload_n 0, 1) := o42 ac_cX12_read_160 7 rfl
theorem dX12_read_168 : decode cX12_read 168 = .ok (.getfield 191, 3) := o180 ac_cX12_read_160 8 0 191 rfl
theorem dX12_read_171 : decode cX12_read 171 = .ok (.ifCond .le 8, 3) := o158p ac_cX12_read_160 11 0 8 rfl rfl
def kb_cX12_read_176 : List Nat := [0, 191, 172, 42, 180, 0, 200, 158, 0, 8, 42, 180, 0, 200, 172, 42, 42, 180, 0, 224]
theorem ac_cX12_read_176 : AL cX12_read 176 kb_cX12_read_176 := AL.of (m := 20) (by decide +kernel)
theorem dX12_read_179 : decode cX12_read 179 = .ok (.aload_n 0, 1) := o42 ac_cX12_read_176 3 rfl
theorem dX12_read_180 : decode cX12_read 180 = .ok (.getfield 200, 3) := o180 ac_cX12_read_176 4 0 200 rfl
theorem dX12_read_183 : decode cX12_read 183 = .ok (.ifCond .le 8, 3) := o158p ac_cX12_read_176 7 0 8 rfl rfl
theorem dX12_read_191 : decode cX12_read 191 = .ok (.aload_n 0, 1) := o42 ac_cX12_read_176 15 rfl
def kb_cX12_read_192 : List Nat := [42, 180, 0, 224, 181, 0, 221, 42, 182, 0, 148, 42, 182, 0, 151, 42, 3, 181, 0, 239]
theorem ac_cX12_read_192 : AL cX12_read 192 kb_cX12_read_192 := AL.of (m := 20) (by decide +kernel)
theorem dX12_read_192 : decode cX12_read 192 = .ok (.aload_n 0, 1) := o42 ac_cX12_read_192 0 rfl
theorem dX12_read_193 : decode cX12_read 193 = .ok (.getfield 224, 3) := o180 ac_cX12_read_192 1 0 224 rfl
theorem dX12_read_196 : decode cX12_read 196 = .ok (.putfield 221, 3) := o181 ac_cX12_read_192 4 0 221 rfl
theorem dX12_read_199 : decode cX12_read 199 = .ok (.aload_n 0, 1) := o42 ac_cX12_read_192 7 rfl
theorem dX12_read_200 : decode cX12_read 200 = .ok (.invokevirtual 148, 3) := o182 ac_cX12_read_192 8 0 148 rfl
theorem dX12_read_203 : decode cX12_read 203 = .ok (.aload_n 0, 1) := o42 ac_cX12_read_192 11 rfl
theorem dX12_read_204 : decode cX12_read 204 = .ok (.invokevirtual 151, 3) := o182 ac_cX12_read_192 12 0 151 rfl
theorem dX12_read_207 : decode cX12_read 207 = .ok (.aload_n 0, 1) := o42 ac_cX12_read_192 15 rfl
def kb_cX12_read_208 : List Nat := [3, 181, 0, 239, 42, 3, 181, 0, 242, 3, 60, 27, 6, 162, 0, 16, 42, 180, 0, 134]
theorem ac_cX12_read_208 : AL cX12_read 208 kb_cX12_read_208 := AL.of (m := 20) (by decide +kernel)
theorem dX12_read_208 : decode cX12_read 208 = .ok (.iconst 0, 1) := o3 ac_cX12_read_208 0 rfl
theorem dX12_read_209 : decode cX12_read 209 = .ok (.putfield 239, 3) := o181 ac_cX12_read_208 1 0 239 rfl
theorem dX12_read_212 : decode cX12_read 212 = .ok (.aload_n 0, 1) := o42 ac_cX12_read_208 4 rfl
theorem dX12_read_213 : decode cX12_read 213 = .ok (.iconst 0, 1) := o3 ac_cX12_read_208 5 rfl
theorem dX12_read_214 : decode cX12_read 214 = .ok (.putfield 242, 3) := o181 ac_cX12_read_208 6 0 242 rfl
theorem dX12_read_217 : decode cX12_read 217 = .ok (.iconst 0, 1) := o3 ac_cX12_read_208 9 rfl
theorem dX12_read_218 : decode cX12_read 218 = .ok (.istore_n 1, 1) := o60 ac_cX12_read_208 10 rfl
theorem dX12_read_219 : decode cX12_read 219 = .ok (.iload_n 1, 1) := o27 ac_cX12_read_208 11 rfl
theorem dX12_read_220 : decode cX12_read 220 = .ok (.iconst 3, 1) := o6 ac_cX12_read_208 12 rfl
theorem dX12_read_221 : decode cX12_read 221 = .ok (.if_icmp .ge 16, 3) := o162p ac_cX12_read_208 13 0 16 rfl rfl
def kb_cX12_read_224 : List Nat := [42, 180, 0, 134, 27, 3, 84, 132, 1, 1, 167, 255, 241, 3, 172]
theorem ac_cX12_read_224 : AL cX12_read 224 kb_cX12_read_224 := AL.of (m := 15) (by decide +kernel)
theorem dX12_read_224 : decode cX12_read 224 = .ok (.aload_n 0, 1) := o42 ac_cX12_read_224 0 rfl
theorem dX12_read_225 : decode cX12_read 225 = .ok (.getfield 134, 3) := o180 ac_cX12_read_224 1 0 134 rfl
theorem dX12_read_228 : decode cX12_read 228 = .ok (.iload_n 1, 1) := o27 ac_cX12_read_224 4 rfl
theorem dX12_read_229 : decode cX12_read 229 = .ok (.iconst 0, 1) := o3 ac_cX12_read_224 5 rfl
theorem dX12_read_230 : decode cX12_read 230 = .ok (.bastore, 1) := o84 ac_cX12_read_224 6 rfl
theorem dX12_read_231 : decode cX12_read 231 = .ok (.iinc 1 1, 3) := o132p ac_cX12_read_224 7 1 1 rfl rfl
theorem dX12_read_234 : decode cX12_read 234 = .ok (.goto (-15), 3) := o167n ac_cX12_read_224 10 255 241 14 rfl rfl rfl
theorem dX12_read_237 : decode cX12_read 237 = .ok (.iconst 0, 1) := o3 ac_cX12_read_224 13 rfl
theorem dX12_read_238 : decode cX12_read 238 = .ok (.ireturn, 1) := o172 ac_cX12_read_224 14 rfl
