abbrev y_M_init : MethodName := ⟨"SealedBondsModel", "<init>", "()V"⟩
theorem yb_M_init : YB y_M_init prog_14_method_1_code 1 (Option.none : Option Jvm.ClassFile.FieldType) 0 := ⟨j_mem 1374 (by decide +kernel), j_mem 101 (by decide +kernel), by decide, by decide, by decide +kernel⟩
theorem yi_M_init : YI y_M_init := ⟨j_mem 1373 (by decide +kernel), rfl⟩
abbrev y_M_thrown : MethodName := ⟨"SealedBondsModel", "thrown", "()I"⟩
theorem yb_M_thrown : YB y_M_thrown prog_14_method_2_code 1 (Option.some Jvm.ClassFile.FieldType.int) 0 := ⟨j_mem 1594 (by decide +kernel), j_mem 101 (by decide +kernel), by decide, by decide, by decide +kernel⟩
theorem yv_M_thrown : YV y_M_thrown 12 := ⟨j_mem 1592 (by decide +kernel), j_mem 1593 (by decide +kernel), rfl⟩
abbrev y_M_in : MethodName := ⟨"SealedBondsModel", "in", "(III)Z"⟩
theorem yb_M_in : YB y_M_in prog_14_method_3_code 3 (Option.some Jvm.ClassFile.FieldType.boolean) 3 := ⟨j_mem 1601 (by decide +kernel), j_mem 101 (by decide +kernel), by decide, by decide, by decide +kernel⟩
theorem ys_M_in : YS y_M_in := j_mem 1600 (by decide +kernel)
abbrev y_M_lost : MethodName := ⟨"SealedBondsModel", "lost", "()I"⟩
theorem yb_M_lost : YB y_M_lost prog_14_method_4_code 1 (Option.some Jvm.ClassFile.FieldType.int) 0 := ⟨j_mem 1912 (by decide +kernel), j_mem 101 (by decide +kernel), by decide, by decide, by decide +kernel⟩
theorem yv_M_lost : YV y_M_lost 12 := ⟨j_mem 1911 (by decide +kernel), j_mem 86 (by decide +kernel), rfl⟩
abbrev y_M_isPerson : MethodName := ⟨"SealedBondsModel", "isPerson", "(I)Z"⟩
theorem yb_M_isPerson : YB y_M_isPerson prog_14_method_5_code 2 (Option.some Jvm.ClassFile.FieldType.boolean) 1 := ⟨j_mem 1613 (by decide +kernel), j_mem 101 (by decide +kernel), by decide, by decide, by decide +kernel⟩
theorem yv_M_isPerson : YV y_M_isPerson 12 := ⟨j_mem 1612 (by decide +kernel), j_mem 41 (by decide +kernel), rfl⟩
abbrev y_M_isOffice : MethodName := ⟨"SealedBondsModel", "isOffice", "(I)Z"⟩
theorem yb_M_isOffice : YB y_M_isOffice prog_14_method_6_code 2 (Option.some Jvm.ClassFile.FieldType.boolean) 1 := ⟨j_mem 1617 (by decide +kernel), j_mem 101 (by decide +kernel), by decide, by decide, by decide +kernel⟩
theorem yv_M_isOffice : YV y_M_isOffice 12 := ⟨j_mem 1616 (by decide +kernel), j_mem 42 (by decide +kernel), rfl⟩
abbrev y_M_isBond : MethodName := ⟨"SealedBondsModel", "isBond", "(I)Z"⟩
theorem yb_M_isBond : YB y_M_isBond prog_14_method_7_code 2 (Option.some Jvm.ClassFile.FieldType.boolean) 1 := ⟨j_mem 1625 (by decide +kernel), j_mem 101 (by decide +kernel), by decide, by decide, by decide +kernel⟩
theorem yv_M_isBond : YV y_M_isBond 12 := ⟨j_mem 1624 (by decide +kernel), j_mem 43 (by decide +kernel), rfl⟩
abbrev y_M_isSet : MethodName := ⟨"SealedBondsModel", "isSet", "(I)Z"⟩
theorem yb_M_isSet : YB y_M_isSet prog_14_method_8_code 2 (Option.some Jvm.ClassFile.FieldType.boolean) 1 := ⟨j_mem 1699 (by decide +kernel), j_mem 101 (by decide +kernel), by decide, by decide, by decide +kernel⟩
theorem yv_M_isSet : YV y_M_isSet 12 := ⟨j_mem 1698 (by decide +kernel), j_mem 54 (by decide +kernel), rfl⟩
abbrev y_M_has : MethodName := ⟨"SealedBondsModel", "has", "(II)Z"⟩
theorem yb_M_has : YB y_M_has prog_14_method_9_code 2 (Option.some Jvm.ClassFile.FieldType.boolean) 2 := ⟨j_mem 1726 (by decide +kernel), j_mem 101 (by decide +kernel), by decide, by decide, by decide +kernel⟩
theorem ys_M_has : YS y_M_has := j_mem 1725 (by decide +kernel)
abbrev y_M_many : MethodName := ⟨"SealedBondsModel", "many", "(I)I"⟩
theorem yb_M_many : YB y_M_many prog_14_method_10_code 1 (Option.some Jvm.ClassFile.FieldType.int) 1 := ⟨j_mem 1741 (by decide +kernel), j_mem 101 (by decide +kernel), by decide, by decide, by decide +kernel⟩
theorem ys_M_many : YS y_M_many := j_mem 1740 (by decide +kernel)
abbrev y_M_tell : MethodName := ⟨"SealedBondsModel", "tell", "(I)V"⟩
theorem yb_M_tell : YB y_M_tell prog_14_method_11_code 2 (Option.none : Option Jvm.ClassFile.FieldType) 1 := ⟨j_mem 1771 (by decide +kernel), j_mem 101 (by decide +kernel), by decide, by decide, by decide +kernel⟩
theorem yv_M_tell : YV y_M_tell 12 := ⟨j_mem 1770 (by decide +kernel), j_mem 67 (by decide +kernel), rfl⟩
abbrev y_M_person : MethodName := ⟨"SealedBondsModel", "person", "(I)I"⟩
theorem yb_M_person : YB y_M_person prog_14_method_12_code 2 (Option.some Jvm.ClassFile.FieldType.int) 1 := ⟨j_mem 1598 (by decide +kernel), j_mem 101 (by decide +kernel), by decide, by decide, by decide +kernel⟩
theorem yv_M_person : YV y_M_person 12 := ⟨j_mem 1596 (by decide +kernel), j_mem 1597 (by decide +kernel), rfl⟩
abbrev y_M_office : MethodName := ⟨"SealedBondsModel", "office", "()I"⟩
theorem yb_M_office : YB y_M_office prog_14_method_13_code 1 (Option.some Jvm.ClassFile.FieldType.int) 0 := ⟨j_mem 1605 (by decide +kernel), j_mem 101 (by decide +kernel), by decide, by decide, by decide +kernel⟩
theorem yv_M_office : YV y_M_office 12 := ⟨j_mem 1603 (by decide +kernel), j_mem 1604 (by decide +kernel), rfl⟩
abbrev y_M_bond : MethodName := ⟨"SealedBondsModel", "bond", "(IIIII)I"⟩
theorem yb_M_bond : YB y_M_bond prog_14_method_14_code 9 (Option.some Jvm.ClassFile.FieldType.int) 5 := ⟨j_mem 1609 (by decide +kernel), j_mem 101 (by decide +kernel), by decide, by decide, by decide +kernel⟩
theorem yv_M_bond : YV y_M_bond 12 := ⟨j_mem 1607 (by decide +kernel), j_mem 1608 (by decide +kernel), rfl⟩
abbrev y_M_placeOf : MethodName := ⟨"SealedBondsModel", "placeOf", "(I)I"⟩
theorem yb_M_placeOf : YB y_M_placeOf prog_14_method_15_code 4 (Option.some Jvm.ClassFile.FieldType.int) 1 := ⟨j_mem 1629 (by decide +kernel), j_mem 101 (by decide +kernel), by decide, by decide, by decide +kernel⟩
theorem yv_M_placeOf : YV y_M_placeOf 12 := ⟨j_mem 1628 (by decide +kernel), j_mem 44 (by decide +kernel), rfl⟩
abbrev y_M_list : MethodName := ⟨"SealedBondsModel", "list", "(I)I"⟩
theorem yb_M_list : YB y_M_list prog_14_method_16_code 3 (Option.some Jvm.ClassFile.FieldType.int) 1 := ⟨j_mem 1621 (by decide +kernel), j_mem 101 (by decide +kernel), by decide, by decide, by decide +kernel⟩
theorem yv_M_list : YV y_M_list 12 := ⟨j_mem 1619 (by decide +kernel), j_mem 1620 (by decide +kernel), rfl⟩
abbrev y_M_clear : MethodName := ⟨"SealedBondsModel", "clear", "(I)I"⟩
theorem yb_M_clear : YB y_M_clear prog_14_method_17_code 3 (Option.some Jvm.ClassFile.FieldType.int) 1 := ⟨j_mem 1633 (by decide +kernel), j_mem 101 (by decide +kernel), by decide, by decide, by decide +kernel⟩
theorem yv_M_clear : YV y_M_clear 12 := ⟨j_mem 1631 (by decide +kernel), j_mem 1632 (by decide +kernel), rfl⟩
abbrev y_M_coupleOf : MethodName := ⟨"SealedBondsModel", "coupleOf", "(I)I"⟩
theorem yb_M_coupleOf : YB y_M_coupleOf prog_14_method_18_code 3 (Option.some Jvm.ClassFile.FieldType.int) 1 := ⟨j_mem 1641 (by decide +kernel), j_mem 101 (by decide +kernel), by decide, by decide, by decide +kernel⟩
theorem yv_M_coupleOf : YV y_M_coupleOf 12 := ⟨j_mem 1640 (by decide +kernel), j_mem 45 (by decide +kernel), rfl⟩
abbrev y_M_couple : MethodName := ⟨"SealedBondsModel", "couple", "(II)I"⟩
theorem yb_M_couple : YB y_M_couple prog_14_method_19_code 3 (Option.some Jvm.ClassFile.FieldType.int) 2 := ⟨j_mem 1637 (by decide +kernel), j_mem 101 (by decide +kernel), by decide, by decide, by decide +kernel⟩
theorem yv_M_couple : YV y_M_couple 12 := ⟨j_mem 1635 (by decide +kernel), j_mem 1636 (by decide +kernel), rfl⟩
abbrev y_M_isOf : MethodName := ⟨"SealedBondsModel", "isOf", "(II)Z"⟩
theorem yb_M_isOf : YB y_M_isOf prog_14_method_20_code 3 (Option.some Jvm.ClassFile.FieldType.boolean) 2 := ⟨j_mem 1649 (by decide +kernel), j_mem 101 (by decide +kernel), by decide, by decide, by decide +kernel⟩
theorem yv_M_isOf : YV y_M_isOf 12 := ⟨j_mem 1648 (by decide +kernel), j_mem 46 (by decide +kernel), rfl⟩
abbrev y_M_pair : MethodName := ⟨"SealedBondsModel", "pair", "(III)I"⟩
theorem yb_M_pair : YB y_M_pair prog_14_method_21_code 5 (Option.some Jvm.ClassFile.FieldType.int) 3 := ⟨j_mem 1645 (by decide +kernel), j_mem 101 (by decide +kernel), by decide, by decide, by decide +kernel⟩
theorem yv_M_pair : YV y_M_pair 12 := ⟨j_mem 1643 (by decide +kernel), j_mem 1644 (by decide +kernel), rfl⟩
abbrev y_M_sign : MethodName := ⟨"SealedBondsModel", "sign", "(I)I"⟩
theorem yb_M_sign : YB y_M_sign prog_14_method_22_code 3 (Option.some Jvm.ClassFile.FieldType.int) 1 := ⟨j_mem 1653 (by decide +kernel), j_mem 101 (by decide +kernel), by decide, by decide, by decide +kernel⟩
theorem yv_M_sign : YV y_M_sign 12 := ⟨j_mem 1651 (by decide +kernel), j_mem 1652 (by decide +kernel), rfl⟩
abbrev y_M_end : MethodName := ⟨"SealedBondsModel", "end", "(I)Z"⟩
theorem yb_M_end : YB y_M_end prog_14_method_23_code 2 (Option.some Jvm.ClassFile.FieldType.boolean) 1 := ⟨j_mem 1657 (by decide +kernel), j_mem 101 (by decide +kernel), by decide, by decide, by decide +kernel⟩
theorem yv_M_end : YV y_M_end 12 := ⟨j_mem 1655 (by decide +kernel), j_mem 1656 (by decide +kernel), rfl⟩
abbrev y_M_here : MethodName := ⟨"SealedBondsModel", "here", "()I"⟩
theorem yb_M_here : YB y_M_here prog_14_method_24_code 1 (Option.some Jvm.ClassFile.FieldType.int) 0 := ⟨j_mem 1673 (by decide +kernel), j_mem 101 (by decide +kernel), by decide, by decide, by decide +kernel⟩
theorem yv_M_here : YV y_M_here 12 := ⟨j_mem 1672 (by decide +kernel), j_mem 49 (by decide +kernel), rfl⟩
abbrev y_M_passes : MethodName := ⟨"SealedBondsModel", "passes", "(I)Z"⟩
theorem yb_M_passes : YB y_M_passes prog_14_method_25_code 2 (Option.some Jvm.ClassFile.FieldType.boolean) 1 := ⟨j_mem 1669 (by decide +kernel), j_mem 101 (by decide +kernel), by decide, by decide, by decide +kernel⟩
theorem yv_M_passes : YV y_M_passes 12 := ⟨j_mem 1668 (by decide +kernel), j_mem 48 (by decide +kernel), rfl⟩
abbrev y_M_digit : MethodName := ⟨"SealedBondsModel", "digit", "(C)I"⟩
theorem yb_M_digit : YB y_M_digit prog_14_method_26_code 2 (Option.some Jvm.ClassFile.FieldType.int) 1 := ⟨j_mem 1681 (by decide +kernel), j_mem 101 (by decide +kernel), by decide, by decide, by decide +kernel⟩
theorem yv_M_digit : YV y_M_digit 12 := ⟨j_mem 1680 (by decide +kernel), j_mem 51 (by decide +kernel), rfl⟩
abbrev y_M_number : MethodName := ⟨"SealedBondsModel", "number", "()I"⟩
theorem yb_M_number : YB y_M_number prog_14_method_27_code 3 (Option.some Jvm.ClassFile.FieldType.int) 0 := ⟨j_mem 1677 (by decide +kernel), j_mem 101 (by decide +kernel), by decide, by decide, by decide +kernel⟩
theorem yv_M_number : YV y_M_number 12 := ⟨j_mem 1676 (by decide +kernel), j_mem 50 (by decide +kernel), rfl⟩
abbrev y_M_key : MethodName := ⟨"SealedBondsModel", "key", "()Z"⟩
theorem yb_M_key : YB y_M_key prog_14_method_28_code 4 (Option.some Jvm.ClassFile.FieldType.boolean) 0 := ⟨j_mem 1685 (by decide +kernel), j_mem 101 (by decide +kernel), by decide, by decide, by decide +kernel⟩
theorem yv_M_key : YV y_M_key 12 := ⟨j_mem 1684 (by decide +kernel), j_mem 52 (by decide +kernel), rfl⟩
abbrev y_M_two : MethodName := ⟨"SealedBondsModel", "two", "(C)I"⟩
theorem yb_M_two : YB y_M_two prog_14_method_29_code 4 (Option.some Jvm.ClassFile.FieldType.int) 1 := ⟨j_mem 1691 (by decide +kernel), j_mem 101 (by decide +kernel), by decide, by decide, by decide +kernel⟩
theorem yv_M_two : YV y_M_two 12 := ⟨j_mem 1690 (by decide +kernel), j_mem 53 (by decide +kernel), rfl⟩
abbrev y_M_line : MethodName := ⟨"SealedBondsModel", "line", "()Z"⟩
theorem yb_M_line : YB y_M_line prog_14_method_30_code 3 (Option.some Jvm.ClassFile.FieldType.boolean) 0 := ⟨j_mem 1665 (by decide +kernel), j_mem 101 (by decide +kernel), by decide, by decide, by decide +kernel⟩
theorem yv_M_line : YV y_M_line 12 := ⟨j_mem 1664 (by decide +kernel), j_mem 47 (by decide +kernel), rfl⟩
abbrev y_M_choice : MethodName := ⟨"SealedBondsModel", "choice", "(I)I"⟩
theorem yb_M_choice : YB y_M_choice prog_14_method_31_code 4 (Option.some Jvm.ClassFile.FieldType.int) 1 := ⟨j_mem 1661 (by decide +kernel), j_mem 101 (by decide +kernel), by decide, by decide, by decide +kernel⟩
theorem yv_M_choice : YV y_M_choice 12 := ⟨j_mem 1659 (by decide +kernel), j_mem 1660 (by decide +kernel), rfl⟩
abbrev y_M_valueOf : MethodName := ⟨"SealedBondsModel", "valueOf", "(II)I"⟩
theorem yb_M_valueOf : YB y_M_valueOf prog_14_method_32_code 3 (Option.some Jvm.ClassFile.FieldType.int) 2 := ⟨j_mem 1719 (by decide +kernel), j_mem 101 (by decide +kernel), by decide, by decide, by decide +kernel⟩
theorem yv_M_valueOf : YV y_M_valueOf 12 := ⟨j_mem 1718 (by decide +kernel), j_mem 59 (by decide +kernel), rfl⟩
abbrev y_M_isAhead : MethodName := ⟨"SealedBondsModel", "isAhead", "(III)Z"⟩
theorem yb_M_isAhead : YB y_M_isAhead prog_14_method_33_code 7 (Option.some Jvm.ClassFile.FieldType.boolean) 3 := ⟨j_mem 1715 (by decide +kernel), j_mem 101 (by decide +kernel), by decide, by decide, by decide +kernel⟩
theorem yv_M_isAhead : YV y_M_isAhead 12 := ⟨j_mem 1714 (by decide +kernel), j_mem 58 (by decide +kernel), rfl⟩
abbrev y_M_peopleOf : MethodName := ⟨"SealedBondsModel", "peopleOf", "(I)I"⟩
theorem yb_M_peopleOf : YB y_M_peopleOf prog_14_method_34_code 4 (Option.some Jvm.ClassFile.FieldType.int) 1 := ⟨j_mem 1738 (by decide +kernel), j_mem 101 (by decide +kernel), by decide, by decide, by decide +kernel⟩
theorem yv_M_peopleOf : YV y_M_peopleOf 12 := ⟨j_mem 1737 (by decide +kernel), j_mem 63 (by decide +kernel), rfl⟩
abbrev y_M_payOf : MethodName := ⟨"SealedBondsModel", "payOf", "(I)I"⟩
theorem yb_M_payOf : YB y_M_payOf prog_14_method_35_code 4 (Option.some Jvm.ClassFile.FieldType.int) 1 := ⟨j_mem 1746 (by decide +kernel), j_mem 101 (by decide +kernel), by decide, by decide, by decide +kernel⟩
theorem yv_M_payOf : YV y_M_payOf 12 := ⟨j_mem 1745 (by decide +kernel), j_mem 64 (by decide +kernel), rfl⟩
abbrev y_M_breach : MethodName := ⟨"SealedBondsModel", "breach", "(II)I"⟩
theorem yb_M_breach : YB y_M_breach prog_14_method_36_code 7 (Option.some Jvm.ClassFile.FieldType.int) 2 := ⟨j_mem 1734 (by decide +kernel), j_mem 101 (by decide +kernel), by decide, by decide, by decide +kernel⟩
theorem yv_M_breach : YV y_M_breach 12 := ⟨j_mem 1733 (by decide +kernel), j_mem 62 (by decide +kernel), rfl⟩
abbrev y_M_isAllowed : MethodName := ⟨"SealedBondsModel", "isAllowed", "(II)Z"⟩
theorem yb_M_isAllowed : YB y_M_isAllowed prog_14_method_37_code 6 (Option.some Jvm.ClassFile.FieldType.boolean) 2 := ⟨j_mem 1730 (by decide +kernel), j_mem 101 (by decide +kernel), by decide, by decide, by decide +kernel⟩
theorem yv_M_isAllowed : YV y_M_isAllowed 12 := ⟨j_mem 1729 (by decide +kernel), j_mem 61 (by decide +kernel), rfl⟩
abbrev y_M_spread : MethodName := ⟨"SealedBondsModel", "spread", "(II)I"⟩
theorem yb_M_spread : YB y_M_spread prog_14_method_38_code 5 (Option.some Jvm.ClassFile.FieldType.int) 2 := ⟨j_mem 1723 (by decide +kernel), j_mem 101 (by decide +kernel), by decide, by decide, by decide +kernel⟩
theorem yv_M_spread : YV y_M_spread 12 := ⟨j_mem 1722 (by decide +kernel), j_mem 60 (by decide +kernel), rfl⟩
abbrev y_M_gather : MethodName := ⟨"SealedBondsModel", "gather", "(II)I"⟩
theorem yb_M_gather : YB y_M_gather prog_14_method_39_code 5 (Option.some Jvm.ClassFile.FieldType.int) 2 := ⟨j_mem 1751 (by decide +kernel), j_mem 101 (by decide +kernel), by decide, by decide, by decide +kernel⟩
theorem yv_M_gather : YV y_M_gather 12 := ⟨j_mem 1750 (by decide +kernel), j_mem 65 (by decide +kernel), rfl⟩
abbrev y_M_make1 : MethodName := ⟨"SealedBondsModel", "make", "(I)V"⟩
theorem yb_M_make1 : YB y_M_make1 prog_14_method_40_code 5 (Option.none : Option Jvm.ClassFile.FieldType) 1 := ⟨j_mem 1711 (by decide +kernel), j_mem 101 (by decide +kernel), by decide, by decide, by decide +kernel⟩
theorem yv_M_make1 : YV y_M_make1 12 := ⟨j_mem 1710 (by decide +kernel), j_mem 57 (by decide +kernel), rfl⟩
abbrev y_M_make : MethodName := ⟨"SealedBondsModel", "make", "()V"⟩
theorem yb_M_make : YB y_M_make prog_14_method_41_code 2 (Option.none : Option Jvm.ClassFile.FieldType) 0 := ⟨j_mem 1707 (by decide +kernel), j_mem 101 (by decide +kernel), by decide, by decide, by decide +kernel⟩
theorem yv_M_make : YV y_M_make 12 := ⟨j_mem 1706 (by decide +kernel), j_mem 56 (by decide +kernel), rfl⟩
abbrev y_M_takeOf : MethodName := ⟨"SealedBondsModel", "takeOf", "(II)I"⟩
theorem yb_M_takeOf : YB y_M_takeOf prog_14_method_42_code 3 (Option.some Jvm.ClassFile.FieldType.int) 2 := ⟨j_mem 1703 (by decide +kernel), j_mem 101 (by decide +kernel), by decide, by decide, by decide +kernel⟩
theorem yv_M_takeOf : YV y_M_takeOf 12 := ⟨j_mem 1702 (by decide +kernel), j_mem 55 (by decide +kernel), rfl⟩
abbrev y_M_bondsOf : MethodName := ⟨"SealedBondsModel", "bondsOf", "(I)I"⟩
theorem yb_M_bondsOf : YB y_M_bondsOf prog_14_method_43_code 4 (Option.some Jvm.ClassFile.FieldType.int) 1 := ⟨j_mem 1767 (by decide +kernel), j_mem 101 (by decide +kernel), by decide, by decide, by decide +kernel⟩
theorem yv_M_bondsOf : YV y_M_bondsOf 12 := ⟨j_mem 1766 (by decide +kernel), j_mem 66 (by decide +kernel), rfl⟩
abbrev y_M_take : MethodName := ⟨"SealedBondsModel", "take", "(II)I"⟩
theorem yb_M_take : YB y_M_take prog_14_method_44_code 3 (Option.some Jvm.ClassFile.FieldType.int) 2 := ⟨j_mem 1695 (by decide +kernel), j_mem 101 (by decide +kernel), by decide, by decide, by decide +kernel⟩
theorem yv_M_take : YV y_M_take 12 := ⟨j_mem 1693 (by decide +kernel), j_mem 1694 (by decide +kernel), rfl⟩
abbrev y_M_why : MethodName := ⟨"SealedBondsModel", "why", "(III)I"⟩
theorem yb_M_why : YB y_M_why prog_14_method_45_code 7 (Option.some Jvm.ClassFile.FieldType.int) 3 := ⟨j_mem 1755 (by decide +kernel), j_mem 101 (by decide +kernel), by decide, by decide, by decide +kernel⟩
theorem yv_M_why : YV y_M_why 12 := ⟨j_mem 1753 (by decide +kernel), j_mem 1754 (by decide +kernel), rfl⟩
abbrev y_M_order : MethodName := ⟨"SealedBondsModel", "order", "(I)I"⟩
theorem yb_M_order : YB y_M_order prog_14_method_46_code 3 (Option.some Jvm.ClassFile.FieldType.int) 1 := ⟨j_mem 1759 (by decide +kernel), j_mem 101 (by decide +kernel), by decide, by decide, by decide +kernel⟩
theorem yv_M_order : YV y_M_order 12 := ⟨j_mem 1757 (by decide +kernel), j_mem 1758 (by decide +kernel), rfl⟩
abbrev y_M_law : MethodName := ⟨"SealedBondsModel", "law", "(II)I"⟩
theorem yb_M_law : YB y_M_law prog_14_method_47_code 9 (Option.some Jvm.ClassFile.FieldType.int) 2 := ⟨j_mem 1763 (by decide +kernel), j_mem 101 (by decide +kernel), by decide, by decide, by decide +kernel⟩
theorem yv_M_law : YV y_M_law 12 := ⟨j_mem 1761 (by decide +kernel), j_mem 1762 (by decide +kernel), rfl⟩
abbrev y_M_bondOf : MethodName := ⟨"SealedBondsModel", "bondOf", "(II)I"⟩
theorem yb_M_bondOf : YB y_M_bondOf prog_14_method_48_code 4 (Option.some Jvm.ClassFile.FieldType.int) 2 := ⟨j_mem 1792 (by decide +kernel), j_mem 101 (by decide +kernel), by decide, by decide, by decide +kernel⟩
theorem yv_M_bondOf : YV y_M_bondOf 12 := ⟨j_mem 1791 (by decide +kernel), j_mem 71 (by decide +kernel), rfl⟩
abbrev y_M_rank : MethodName := ⟨"SealedBondsModel", "rank", "(II)I"⟩
theorem yb_M_rank : YB y_M_rank prog_14_method_49_code 4 (Option.some Jvm.ClassFile.FieldType.int) 2 := ⟨j_mem 1788 (by decide +kernel), j_mem 101 (by decide +kernel), by decide, by decide, by decide +kernel⟩
theorem yv_M_rank : YV y_M_rank 12 := ⟨j_mem 1787 (by decide +kernel), j_mem 70 (by decide +kernel), rfl⟩
abbrev y_M_rankOfCouple : MethodName := ⟨"SealedBondsModel", "rankOfCouple", "(II)I"⟩
theorem yb_M_rankOfCouple : YB y_M_rankOfCouple prog_14_method_50_code 6 (Option.some Jvm.ClassFile.FieldType.int) 2 := ⟨j_mem 1796 (by decide +kernel), j_mem 101 (by decide +kernel), by decide, by decide, by decide +kernel⟩
theorem yv_M_rankOfCouple : YV y_M_rankOfCouple 12 := ⟨j_mem 1795 (by decide +kernel), j_mem 72 (by decide +kernel), rfl⟩
abbrev y_M_isFree : MethodName := ⟨"SealedBondsModel", "isFree", "(I)Z"⟩
theorem yb_M_isFree : YB y_M_isFree prog_14_method_51_code 4 (Option.some Jvm.ClassFile.FieldType.boolean) 1 := ⟨j_mem 1784 (by decide +kernel), j_mem 101 (by decide +kernel), by decide, by decide, by decide +kernel⟩
theorem yv_M_isFree : YV y_M_isFree 12 := ⟨j_mem 1783 (by decide +kernel), j_mem 69 (by decide +kernel), rfl⟩
abbrev y_M_wanted : MethodName := ⟨"SealedBondsModel", "wanted", "(I)I"⟩
theorem yb_M_wanted : YB y_M_wanted prog_14_method_52_code 4 (Option.some Jvm.ClassFile.FieldType.int) 1 := ⟨j_mem 1800 (by decide +kernel), j_mem 101 (by decide +kernel), by decide, by decide, by decide +kernel⟩
theorem yv_M_wanted : YV y_M_wanted 12 := ⟨j_mem 1799 (by decide +kernel), j_mem 73 (by decide +kernel), rfl⟩
abbrev y_M_breaking : MethodName := ⟨"SealedBondsModel", "breaking", "(III)I"⟩
theorem yb_M_breaking : YB y_M_breaking prog_14_method_53_code 7 (Option.some Jvm.ClassFile.FieldType.int) 3 := ⟨j_mem 1804 (by decide +kernel), j_mem 101 (by decide +kernel), by decide, by decide, by decide +kernel⟩
theorem yv_M_breaking : YV y_M_breaking 12 := ⟨j_mem 1803 (by decide +kernel), j_mem 74 (by decide +kernel), rfl⟩
abbrev y_M_breakingPair : MethodName := ⟨"SealedBondsModel", "breakingPair", "(II)I"⟩
theorem yb_M_breakingPair : YB y_M_breakingPair prog_14_method_54_code 12 (Option.some Jvm.ClassFile.FieldType.int) 2 := ⟨j_mem 1808 (by decide +kernel), j_mem 101 (by decide +kernel), by decide, by decide, by decide +kernel⟩
theorem yv_M_breakingPair : YV y_M_breakingPair 12 := ⟨j_mem 1807 (by decide +kernel), j_mem 75 (by decide +kernel), rfl⟩
abbrev y_M_judgeOf : MethodName := ⟨"SealedBondsModel", "judgeOf", "(I)I"⟩
theorem yb_M_judgeOf : YB y_M_judgeOf prog_14_method_55_code 5 (Option.some Jvm.ClassFile.FieldType.int) 1 := ⟨j_mem 1780 (by decide +kernel), j_mem 101 (by decide +kernel), by decide, by decide, by decide +kernel⟩
theorem yv_M_judgeOf : YV y_M_judgeOf 12 := ⟨j_mem 1779 (by decide +kernel), j_mem 68 (by decide +kernel), rfl⟩
abbrev y_M_judge : MethodName := ⟨"SealedBondsModel", "judge", "(I)I"⟩
theorem yb_M_judge : YB y_M_judge prog_14_method_56_code 3 (Option.some Jvm.ClassFile.FieldType.int) 1 := ⟨j_mem 1776 (by decide +kernel), j_mem 101 (by decide +kernel), by decide, by decide, by decide +kernel⟩
theorem yv_M_judge : YV y_M_judge 12 := ⟨j_mem 1774 (by decide +kernel), j_mem 1775 (by decide +kernel), rfl⟩
abbrev y_M_nextOf : MethodName := ⟨"SealedBondsModel", "nextOf", "(I)I"⟩
theorem yb_M_nextOf : YB y_M_nextOf prog_14_method_57_code 4 (Option.some Jvm.ClassFile.FieldType.int) 1 := ⟨j_mem 1820 (by decide +kernel), j_mem 101 (by decide +kernel), by decide, by decide, by decide +kernel⟩
theorem yv_M_nextOf : YV y_M_nextOf 12 := ⟨j_mem 1819 (by decide +kernel), j_mem 77 (by decide +kernel), rfl⟩
abbrev y_M_outcome : MethodName := ⟨"SealedBondsModel", "outcome", "()I"⟩
theorem yb_M_outcome : YB y_M_outcome prog_14_method_58_code 6 (Option.some Jvm.ClassFile.FieldType.int) 0 := ⟨j_mem 1816 (by decide +kernel), j_mem 101 (by decide +kernel), by decide, by decide, by decide +kernel⟩
theorem yv_M_outcome : YV y_M_outcome 12 := ⟨j_mem 1815 (by decide +kernel), j_mem 76 (by decide +kernel), rfl⟩
abbrev y_M_offer : MethodName := ⟨"SealedBondsModel", "offer", "()I"⟩
theorem yb_M_offer : YB y_M_offer prog_14_method_59_code 2 (Option.some Jvm.ClassFile.FieldType.int) 0 := ⟨j_mem 1812 (by decide +kernel), j_mem 101 (by decide +kernel), by decide, by decide, by decide +kernel⟩
theorem yv_M_offer : YV y_M_offer 12 := ⟨j_mem 1810 (by decide +kernel), j_mem 1811 (by decide +kernel), rfl⟩
abbrev y_M_goThrough : MethodName := ⟨"SealedBondsModel", "goThrough", "(IIZ)V"⟩
theorem yb_M_goThrough : YB y_M_goThrough prog_14_method_60_code 5 (Option.none : Option Jvm.ClassFile.FieldType) 3 := ⟨j_mem 1832 (by decide +kernel), j_mem 101 (by decide +kernel), by decide, by decide, by decide +kernel⟩
theorem yv_M_goThrough : YV y_M_goThrough 12 := ⟨j_mem 1831 (by decide +kernel), j_mem 79 (by decide +kernel), rfl⟩
abbrev y_M_findAll : MethodName := ⟨"SealedBondsModel", "findAll", "()V"⟩
theorem yb_M_findAll : YB y_M_findAll prog_14_method_61_code 1 (Option.none : Option Jvm.ClassFile.FieldType) 0 := ⟨j_mem 1828 (by decide +kernel), j_mem 101 (by decide +kernel), by decide, by decide, by decide +kernel⟩
theorem yv_M_findAll : YV y_M_findAll 12 := ⟨j_mem 1827 (by decide +kernel), j_mem 78 (by decide +kernel), rfl⟩
abbrev y_M_all : MethodName := ⟨"SealedBondsModel", "all", "()I"⟩
theorem yb_M_all : YB y_M_all prog_14_method_62_code 2 (Option.some Jvm.ClassFile.FieldType.int) 0 := ⟨j_mem 1824 (by decide +kernel), j_mem 101 (by decide +kernel), by decide, by decide, by decide +kernel⟩
theorem yv_M_all : YV y_M_all 12 := ⟨j_mem 1822 (by decide +kernel), j_mem 1823 (by decide +kernel), rfl⟩
abbrev y_M_isBetter : MethodName := ⟨"SealedBondsModel", "isBetter", "(II)Z"⟩
theorem yb_M_isBetter : YB y_M_isBetter prog_14_method_63_code 5 (Option.some Jvm.ClassFile.FieldType.boolean) 2 := ⟨j_mem 1840 (by decide +kernel), j_mem 101 (by decide +kernel), by decide, by decide, by decide +kernel⟩
theorem yv_M_isBetter : YV y_M_isBetter 12 := ⟨j_mem 1839 (by decide +kernel), j_mem 80 (by decide +kernel), rfl⟩
abbrev y_M_best : MethodName := ⟨"SealedBondsModel", "best", "(I)I"⟩
theorem yb_M_best : YB y_M_best prog_14_method_64_code 5 (Option.some Jvm.ClassFile.FieldType.int) 1 := ⟨j_mem 1836 (by decide +kernel), j_mem 101 (by decide +kernel), by decide, by decide, by decide +kernel⟩
theorem yv_M_best : YV y_M_best 12 := ⟨j_mem 1834 (by decide +kernel), j_mem 1835 (by decide +kernel), rfl⟩
abbrev y_M_isNext : MethodName := ⟨"SealedBondsModel", "isNext", "(II)Z"⟩
theorem yb_M_isNext : YB y_M_isNext prog_14_method_65_code 7 (Option.some Jvm.ClassFile.FieldType.boolean) 2 := ⟨j_mem 1848 (by decide +kernel), j_mem 101 (by decide +kernel), by decide, by decide, by decide +kernel⟩
theorem yv_M_isNext : YV y_M_isNext 12 := ⟨j_mem 1847 (by decide +kernel), j_mem 81 (by decide +kernel), rfl⟩
abbrev y_M_steps : MethodName := ⟨"SealedBondsModel", "steps", "(II)I"⟩
theorem yb_M_steps : YB y_M_steps prog_14_method_66_code 7 (Option.some Jvm.ClassFile.FieldType.int) 2 := ⟨j_mem 1844 (by decide +kernel), j_mem 101 (by decide +kernel), by decide, by decide, by decide +kernel⟩
theorem yv_M_steps : YV y_M_steps 12 := ⟨j_mem 1842 (by decide +kernel), j_mem 1843 (by decide +kernel), rfl⟩
abbrev y_M_offOf : MethodName := ⟨"SealedBondsModel", "offOf", "(I)I"⟩
theorem yb_M_offOf : YB y_M_offOf prog_14_method_67_code 5 (Option.some Jvm.ClassFile.FieldType.int) 1 := ⟨j_mem 1860 (by decide +kernel), j_mem 101 (by decide +kernel), by decide, by decide, by decide +kernel⟩
theorem yv_M_offOf : YV y_M_offOf 12 := ⟨j_mem 1859 (by decide +kernel), j_mem 83 (by decide +kernel), rfl⟩
abbrev y_M_goNear : MethodName := ⟨"SealedBondsModel", "goNear", "(II)V"⟩
theorem yb_M_goNear : YB y_M_goNear prog_14_method_68_code 4 (Option.none : Option Jvm.ClassFile.FieldType) 2 := ⟨j_mem 1856 (by decide +kernel), j_mem 101 (by decide +kernel), by decide, by decide, by decide +kernel⟩
theorem yv_M_goNear : YV y_M_goNear 12 := ⟨j_mem 1855 (by decide +kernel), j_mem 82 (by decide +kernel), rfl⟩
abbrev y_M_near : MethodName := ⟨"SealedBondsModel", "near", "()I"⟩
theorem yb_M_near : YB y_M_near prog_14_method_69_code 1 (Option.some Jvm.ClassFile.FieldType.int) 0 := ⟨j_mem 1852 (by decide +kernel), j_mem 101 (by decide +kernel), by decide, by decide, by decide +kernel⟩
theorem yv_M_near : YV y_M_near 12 := ⟨j_mem 1850 (by decide +kernel), j_mem 1851 (by decide +kernel), rfl⟩
abbrev y_M_share : MethodName := ⟨"SealedBondsModel", "share", "(II)Z"⟩
theorem yb_M_share : YB y_M_share prog_14_method_70_code 5 (Option.some Jvm.ClassFile.FieldType.boolean) 2 := ⟨j_mem 1868 (by decide +kernel), j_mem 101 (by decide +kernel), by decide, by decide, by decide +kernel⟩
theorem yv_M_share : YV y_M_share 12 := ⟨j_mem 1867 (by decide +kernel), j_mem 84 (by decide +kernel), rfl⟩
abbrev y_M_places : MethodName := ⟨"SealedBondsModel", "places", "()I"⟩
theorem yb_M_places : YB y_M_places prog_14_method_71_code 4 (Option.some Jvm.ClassFile.FieldType.int) 0 := ⟨j_mem 1864 (by decide +kernel), j_mem 101 (by decide +kernel), by decide, by decide, by decide +kernel⟩
theorem yv_M_places : YV y_M_places 12 := ⟨j_mem 1862 (by decide +kernel), j_mem 1863 (by decide +kernel), rfl⟩
abbrev y_M_lie : MethodName := ⟨"SealedBondsModel", "lie", "(III)Z"⟩
theorem yb_M_lie : YB y_M_lie prog_14_method_72_code 7 (Option.some Jvm.ClassFile.FieldType.boolean) 3 := ⟨j_mem 1876 (by decide +kernel), j_mem 101 (by decide +kernel), by decide, by decide, by decide +kernel⟩
theorem yv_M_lie : YV y_M_lie 12 := ⟨j_mem 1875 (by decide +kernel), j_mem 85 (by decide +kernel), rfl⟩
abbrev y_M_gain : MethodName := ⟨"SealedBondsModel", "gain", "(I)I"⟩
theorem yb_M_gain : YB y_M_gain prog_14_method_73_code 5 (Option.some Jvm.ClassFile.FieldType.int) 1 := ⟨j_mem 1872 (by decide +kernel), j_mem 101 (by decide +kernel), by decide, by decide, by decide +kernel⟩
theorem yv_M_gain : YV y_M_gain 12 := ⟨j_mem 1870 (by decide +kernel), j_mem 1871 (by decide +kernel), rfl⟩
abbrev y_M_left : MethodName := ⟨"SealedBondsModel", "left", "()I"⟩
theorem yb_M_left : YB y_M_left prog_14_method_74_code 3 (Option.some Jvm.ClassFile.FieldType.int) 0 := ⟨j_mem 1880 (by decide +kernel), j_mem 101 (by decide +kernel), by decide, by decide, by decide +kernel⟩
theorem yv_M_left : YV y_M_left 12 := ⟨j_mem 1878 (by decide +kernel), j_mem 1879 (by decide +kernel), rfl⟩
abbrev y_M_same : MethodName := ⟨"SealedBondsModel", "same", "()I"⟩
theorem yb_M_same : YB y_M_same prog_14_method_75_code 5 (Option.some Jvm.ClassFile.FieldType.int) 0 := ⟨j_mem 1884 (by decide +kernel), j_mem 101 (by decide +kernel), by decide, by decide, by decide +kernel⟩
theorem yv_M_same : YV y_M_same 12 := ⟨j_mem 1882 (by decide +kernel), j_mem 1883 (by decide +kernel), rfl⟩
abbrev y_M_lot : MethodName := ⟨"SealedBondsModel", "lot", "(I)I"⟩
theorem yb_M_lot : YB y_M_lot prog_14_method_76_code 6 (Option.some Jvm.ClassFile.FieldType.int) 1 := ⟨j_mem 1888 (by decide +kernel), j_mem 101 (by decide +kernel), by decide, by decide, by decide +kernel⟩
theorem yv_M_lot : YV y_M_lot 12 := ⟨j_mem 1886 (by decide +kernel), j_mem 1887 (by decide +kernel), rfl⟩
abbrev y_M_mean : MethodName := ⟨"SealedBondsModel", "mean", "()I"⟩
theorem yb_M_mean : YB y_M_mean prog_14_method_77_code 7 (Option.some Jvm.ClassFile.FieldType.int) 0 := ⟨j_mem 1892 (by decide +kernel), j_mem 101 (by decide +kernel), by decide, by decide, by decide +kernel⟩
theorem yv_M_mean : YV y_M_mean 12 := ⟨j_mem 1890 (by decide +kernel), j_mem 1891 (by decide +kernel), rfl⟩
abbrev y_M_gone : MethodName := ⟨"SealedBondsModel", "gone", "(II)I"⟩
theorem yb_M_gone : YB y_M_gone prog_14_method_78_code 7 (Option.some Jvm.ClassFile.FieldType.int) 2 := ⟨j_mem 1896 (by decide +kernel), j_mem 101 (by decide +kernel), by decide, by decide, by decide +kernel⟩
theorem yv_M_gone : YV y_M_gone 12 := ⟨j_mem 1894 (by decide +kernel), j_mem 1895 (by decide +kernel), rfl⟩
abbrev y_M_count : MethodName := ⟨"SealedBondsModel", "count", "(I)I"⟩
theorem yb_M_count : YB y_M_count prog_14_method_79_code 2 (Option.some Jvm.ClassFile.FieldType.int) 1 := ⟨j_mem 1900 (by decide +kernel), j_mem 101 (by decide +kernel), by decide, by decide, by decide +kernel⟩
theorem yv_M_count : YV y_M_count 12 := ⟨j_mem 1898 (by decide +kernel), j_mem 1899 (by decide +kernel), rfl⟩
abbrev y_M_of : MethodName := ⟨"SealedBondsModel", "of", "(II)I"⟩
theorem yb_M_of : YB y_M_of prog_14_method_80_code 3 (Option.some Jvm.ClassFile.FieldType.int) 2 := ⟨j_mem 1904 (by decide +kernel), j_mem 101 (by decide +kernel), by decide, by decide, by decide +kernel⟩
theorem yv_M_of : YV y_M_of 12 := ⟨j_mem 1902 (by decide +kernel), j_mem 1903 (by decide +kernel), rfl⟩
abbrev y_M_row : MethodName := ⟨"SealedBondsModel", "row", "(I)I"⟩
theorem yb_M_row : YB y_M_row prog_14_method_81_code 2 (Option.some Jvm.ClassFile.FieldType.int) 1 := ⟨j_mem 1908 (by decide +kernel), j_mem 101 (by decide +kernel), by decide, by decide, by decide +kernel⟩
theorem yv_M_row : YV y_M_row 12 := ⟨j_mem 1906 (by decide +kernel), j_mem 1907 (by decide +kernel), rfl⟩
theorem fw_M_148 : FW "SealedBondsModel" 148 12 0 33 := ⟨j_mem 1409 (by decide +kernel), by decide, by decide⟩
theorem fw_M_151 : FW "SealedBondsModel" 151 12 0 0 := ⟨j_mem 1376 (by decide +kernel), by decide, by decide⟩
theorem fw_M_158 : FW "SealedBondsModel" 158 12 0 2 := ⟨j_mem 1378 (by decide +kernel), by decide, by decide⟩
theorem fw_M_161 : FW "SealedBondsModel" 161 12 0 3 := ⟨j_mem 1379 (by decide +kernel), by decide, by decide⟩
theorem fw_M_90 : FW "SealedBondsModel" 90 12 1 31 := ⟨j_mem 1407 (by decide +kernel), by decide, by decide⟩
theorem fw_M_170 : FW "SealedBondsModel" 170 12 0 32 := ⟨j_mem 1408 (by decide +kernel), by decide, by decide⟩
theorem fw_M_9 : FW "SealedBondsModel" 9 12 1 1 := ⟨j_mem 1377 (by decide +kernel), by decide, by decide⟩
theorem fw_M_13 : FW "SealedBondsModel" 13 12 1 4 := ⟨j_mem 1380 (by decide +kernel), by decide, by decide⟩
theorem fw_M_16 : FW "SealedBondsModel" 16 12 1 5 := ⟨j_mem 1381 (by decide +kernel), by decide, by decide⟩
theorem fw_M_19 : FW "SealedBondsModel" 19 12 1 6 := ⟨j_mem 1382 (by decide +kernel), by decide, by decide⟩
theorem fw_M_22 : FW "SealedBondsModel" 22 12 1 7 := ⟨j_mem 1383 (by decide +kernel), by decide, by decide⟩
theorem fw_M_25 : FW "SealedBondsModel" 25 12 1 8 := ⟨j_mem 1384 (by decide +kernel), by decide, by decide⟩
theorem fw_M_31 : FW "SealedBondsModel" 31 12 1 10 := ⟨j_mem 1386 (by decide +kernel), by decide, by decide⟩
theorem fw_M_28 : FW "SealedBondsModel" 28 12 1 9 := ⟨j_mem 1385 (by decide +kernel), by decide, by decide⟩
theorem fw_M_190 : FW "SealedBondsModel" 190 12 0 11 := ⟨j_mem 1387 (by decide +kernel), by decide, by decide⟩
theorem fw_M_34 : FW "SealedBondsModel" 34 12 1 12 := ⟨j_mem 1388 (by decide +kernel), by decide, by decide⟩
theorem fw_M_37 : FW "SealedBondsModel" 37 12 1 13 := ⟨j_mem 1389 (by decide +kernel), by decide, by decide⟩
theorem fw_M_46 : FW "SealedBondsModel" 46 12 1 16 := ⟨j_mem 1392 (by decide +kernel), by decide, by decide⟩
theorem fw_M_40 : FW "SealedBondsModel" 40 12 1 14 := ⟨j_mem 1390 (by decide +kernel), by decide, by decide⟩
theorem fw_M_43 : FW "SealedBondsModel" 43 12 1 15 := ⟨j_mem 1391 (by decide +kernel), by decide, by decide⟩
theorem fw_M_200 : FW "SealedBondsModel" 200 12 0 30 := ⟨j_mem 1406 (by decide +kernel), by decide, by decide⟩
theorem fw_M_86 : FW "SealedBondsModel" 86 12 1 29 := ⟨j_mem 1405 (by decide +kernel), by decide, by decide⟩
theorem fw_M_203 : FW "SealedBondsModel" 203 12 0 39 := ⟨j_mem 1415 (by decide +kernel), by decide, by decide⟩
theorem fw_M_206 : FW "SealedBondsModel" 206 12 0 38 := ⟨j_mem 1414 (by decide +kernel), by decide, by decide⟩
theorem fw_M_102 : FW "SealedBondsModel" 102 12 1 42 := ⟨j_mem 1418 (by decide +kernel), by decide, by decide⟩
theorem fw_M_224 : FW "SealedBondsModel" 224 12 0 43 := ⟨j_mem 1419 (by decide +kernel), by decide, by decide⟩
theorem fw_M_105 : FW "SealedBondsModel" 105 12 1 44 := ⟨j_mem 1420 (by decide +kernel), by decide, by decide⟩
theorem fw_M_243 : FW "SealedBondsModel" 243 12 0 46 := ⟨j_mem 1422 (by decide +kernel), by decide, by decide⟩
theorem fw_M_108 : FW "SealedBondsModel" 108 12 1 45 := ⟨j_mem 1421 (by decide +kernel), by decide, by decide⟩
theorem fw_M_111 : FW "SealedBondsModel" 111 12 1 47 := ⟨j_mem 1423 (by decide +kernel), by decide, by decide⟩
theorem fw_M_249 : FW "SealedBondsModel" 249 12 0 48 := ⟨j_mem 1424 (by decide +kernel), by decide, by decide⟩
theorem fw_M_114 : FW "SealedBondsModel" 114 12 1 49 := ⟨j_mem 1425 (by decide +kernel), by decide, by decide⟩
theorem fw_M_252 : FW "SealedBondsModel" 252 12 0 50 := ⟨j_mem 1426 (by decide +kernel), by decide, by decide⟩
theorem fw_M_49 : FW "SealedBondsModel" 49 12 1 17 := ⟨j_mem 1393 (by decide +kernel), by decide, by decide⟩
theorem fw_M_53 : FW "SealedBondsModel" 53 12 1 18 := ⟨j_mem 1394 (by decide +kernel), by decide, by decide⟩
theorem fw_M_233 : FW "SealedBondsModel" 233 12 0 40 := ⟨j_mem 1416 (by decide +kernel), by decide, by decide⟩
theorem fw_M_56 : FW "SealedBondsModel" 56 12 1 19 := ⟨j_mem 1395 (by decide +kernel), by decide, by decide⟩
theorem fw_M_236 : FW "SealedBondsModel" 236 12 0 41 := ⟨j_mem 1417 (by decide +kernel), by decide, by decide⟩
theorem fw_M_62 : FW "SealedBondsModel" 62 12 1 21 := ⟨j_mem 1397 (by decide +kernel), by decide, by decide⟩
theorem fw_M_59 : FW "SealedBondsModel" 59 12 1 20 := ⟨j_mem 1396 (by decide +kernel), by decide, by decide⟩
theorem fw_M_71 : FW "SealedBondsModel" 71 12 1 24 := ⟨j_mem 1400 (by decide +kernel), by decide, by decide⟩
theorem fw_M_77 : FW "SealedBondsModel" 77 12 1 26 := ⟨j_mem 1402 (by decide +kernel), by decide, by decide⟩
theorem fw_M_83 : FW "SealedBondsModel" 83 12 1 28 := ⟨j_mem 1404 (by decide +kernel), by decide, by decide⟩
theorem fw_M_65 : FW "SealedBondsModel" 65 12 1 22 := ⟨j_mem 1398 (by decide +kernel), by decide, by decide⟩
theorem fw_M_68 : FW "SealedBondsModel" 68 12 1 23 := ⟨j_mem 1399 (by decide +kernel), by decide, by decide⟩
theorem fw_M_74 : FW "SealedBondsModel" 74 12 1 25 := ⟨j_mem 1401 (by decide +kernel), by decide, by decide⟩
theorem fw_M_80 : FW "SealedBondsModel" 80 12 1 27 := ⟨j_mem 1403 (by decide +kernel), by decide, by decide⟩
theorem fw_M_96 : FW "SealedBondsModel" 96 12 1 35 := ⟨j_mem 1411 (by decide +kernel), by decide, by decide⟩
theorem fw_M_93 : FW "SealedBondsModel" 93 12 1 34 := ⟨j_mem 1410 (by decide +kernel), by decide, by decide⟩
theorem fw_M_117 : FW "SealedBondsModel" 117 12 1 51 := ⟨j_mem 1427 (by decide +kernel), by decide, by decide⟩
theorem fw_M_99 : FW "SealedBondsModel" 99 12 1 36 := ⟨j_mem 1412 (by decide +kernel), by decide, by decide⟩
theorem fw_M_173 : FW "SealedBondsModel" 173 12 0 37 := ⟨j_mem 1413 (by decide +kernel), by decide, by decide⟩
theorem fw_M_334 : FW "SealedBondsModel" 334 12 0 52 := ⟨j_mem 1428 (by decide +kernel), by decide, by decide⟩
theorem fw_M_337 : FW "SealedBondsModel" 337 12 0 53 := ⟨j_mem 1429 (by decide +kernel), by decide, by decide⟩
theorem fw_M_130 : FW "SealedBondsModel" 130 12 0 60 := ⟨j_mem 1436 (by decide +kernel), by decide, by decide⟩
theorem fw_M_123 : FW "SealedBondsModel" 123 12 0 57 := ⟨j_mem 1433 (by decide +kernel), by decide, by decide⟩
theorem fw_M_346 : FW "SealedBondsModel" 346 12 0 59 := ⟨j_mem 1435 (by decide +kernel), by decide, by decide⟩
theorem fw_M_120 : FW "SealedBondsModel" 120 12 1 56 := ⟨j_mem 1432 (by decide +kernel), by decide, by decide⟩
theorem fw_M_127 : FW "SealedBondsModel" 127 12 1 58 := ⟨j_mem 1434 (by decide +kernel), by decide, by decide⟩
theorem fw_M_133 : FW "SealedBondsModel" 133 12 0 61 := ⟨j_mem 1437 (by decide +kernel), by decide, by decide⟩
theorem fw_M_349 : FW "SealedBondsModel" 349 12 0 54 := ⟨j_mem 1430 (by decide +kernel), by decide, by decide⟩
theorem fw_M_352 : FW "SealedBondsModel" 352 12 0 55 := ⟨j_mem 1431 (by decide +kernel), by decide, by decide⟩
theorem fw_M_361 : FW "SealedBondsModel" 361 12 0 64 := ⟨j_mem 1440 (by decide +kernel), by decide, by decide⟩
theorem fw_M_364 : FW "SealedBondsModel" 364 12 0 63 := ⟨j_mem 1439 (by decide +kernel), by decide, by decide⟩
theorem fw_M_136 : FW "SealedBondsModel" 136 12 1 62 := ⟨j_mem 1438 (by decide +kernel), by decide, by decide⟩
theorem fw_M_139 : FW "SealedBondsModel" 139 12 1 65 := ⟨j_mem 1441 (by decide +kernel), by decide, by decide⟩
theorem fw_M_142 : FW "SealedBondsModel" 142 12 1 66 := ⟨j_mem 1442 (by decide +kernel), by decide, by decide⟩
theorem fw_M_383 : FW "SealedBondsModel" 383 12 0 67 := ⟨j_mem 1443 (by decide +kernel), by decide, by decide⟩
theorem fw_M_386 : FW "SealedBondsModel" 386 12 0 68 := ⟨j_mem 1444 (by decide +kernel), by decide, by decide⟩
theorem fw_M_145 : FW "SealedBondsModel" 145 12 1 69 := ⟨j_mem 1445 (by decide +kernel), by decide, by decide⟩
theorem fw_M_396 : FW "SealedBondsModel" 396 12 0 70 := ⟨j_mem 1446 (by decide +kernel), by decide, by decide⟩
theorem pw_M_9_true_0 : PW "SealedBondsModel" true 9 12 1 0 1 := ⟨⟨j_mem 1377 (by decide +kernel), by decide, by decide⟩, by decide, Or.inr ⟨rfl, rfl⟩, by decide⟩
theorem pw_M_13_true_0 : PW "SealedBondsModel" true 13 12 1 0 4 := ⟨⟨j_mem 1380 (by decide +kernel), by decide, by decide⟩, by decide, Or.inr ⟨rfl, rfl⟩, by decide⟩
theorem pw_M_16_true_0 : PW "SealedBondsModel" true 16 12 1 0 5 := ⟨⟨j_mem 1381 (by decide +kernel), by decide, by decide⟩, by decide, Or.inr ⟨rfl, rfl⟩, by decide⟩
theorem pw_M_19_true_0 : PW "SealedBondsModel" true 19 12 1 0 6 := ⟨⟨j_mem 1382 (by decide +kernel), by decide, by decide⟩, by decide, Or.inr ⟨rfl, rfl⟩, by decide⟩
theorem pw_M_22_true_0 : PW "SealedBondsModel" true 22 12 1 0 7 := ⟨⟨j_mem 1383 (by decide +kernel), by decide, by decide⟩, by decide, Or.inr ⟨rfl, rfl⟩, by decide⟩
theorem pw_M_25_true_0 : PW "SealedBondsModel" true 25 12 1 0 8 := ⟨⟨j_mem 1384 (by decide +kernel), by decide, by decide⟩, by decide, Or.inr ⟨rfl, rfl⟩, by decide⟩
theorem pw_M_28_true_0 : PW "SealedBondsModel" true 28 12 1 0 9 := ⟨⟨j_mem 1385 (by decide +kernel), by decide, by decide⟩, by decide, Or.inr ⟨rfl, rfl⟩, by decide⟩
theorem pw_M_31_true_0 : PW "SealedBondsModel" true 31 12 1 0 10 := ⟨⟨j_mem 1386 (by decide +kernel), by decide, by decide⟩, by decide, Or.inr ⟨rfl, rfl⟩, by decide⟩
theorem pw_M_34_true_0 : PW "SealedBondsModel" true 34 12 1 0 12 := ⟨⟨j_mem 1388 (by decide +kernel), by decide, by decide⟩, by decide, Or.inr ⟨rfl, rfl⟩, by decide⟩
theorem pw_M_37_true_0 : PW "SealedBondsModel" true 37 12 1 0 13 := ⟨⟨j_mem 1389 (by decide +kernel), by decide, by decide⟩, by decide, Or.inr ⟨rfl, rfl⟩, by decide⟩
theorem pw_M_40_true_0 : PW "SealedBondsModel" true 40 12 1 0 14 := ⟨⟨j_mem 1390 (by decide +kernel), by decide, by decide⟩, by decide, Or.inr ⟨rfl, rfl⟩, by decide⟩
theorem pw_M_43_true_0 : PW "SealedBondsModel" true 43 12 1 0 15 := ⟨⟨j_mem 1391 (by decide +kernel), by decide, by decide⟩, by decide, Or.inr ⟨rfl, rfl⟩, by decide⟩
theorem pw_M_46_true_0 : PW "SealedBondsModel" true 46 12 1 0 16 := ⟨⟨j_mem 1392 (by decide +kernel), by decide, by decide⟩, by decide, Or.inr ⟨rfl, rfl⟩, by decide⟩
theorem pw_M_49_true_0 : PW "SealedBondsModel" true 49 12 1 0 17 := ⟨⟨j_mem 1393 (by decide +kernel), by decide, by decide⟩, by decide, Or.inr ⟨rfl, rfl⟩, by decide⟩
theorem pw_M_53_true_0 : PW "SealedBondsModel" true 53 12 1 0 18 := ⟨⟨j_mem 1394 (by decide +kernel), by decide, by decide⟩, by decide, Or.inr ⟨rfl, rfl⟩, by decide⟩
theorem pw_M_56_true_0 : PW "SealedBondsModel" true 56 12 1 0 19 := ⟨⟨j_mem 1395 (by decide +kernel), by decide, by decide⟩, by decide, Or.inr ⟨rfl, rfl⟩, by decide⟩
theorem pw_M_59_true_0 : PW "SealedBondsModel" true 59 12 1 0 20 := ⟨⟨j_mem 1396 (by decide +kernel), by decide, by decide⟩, by decide, Or.inr ⟨rfl, rfl⟩, by decide⟩
theorem pw_M_62_true_0 : PW "SealedBondsModel" true 62 12 1 0 21 := ⟨⟨j_mem 1397 (by decide +kernel), by decide, by decide⟩, by decide, Or.inr ⟨rfl, rfl⟩, by decide⟩
theorem pw_M_65_true_0 : PW "SealedBondsModel" true 65 12 1 0 22 := ⟨⟨j_mem 1398 (by decide +kernel), by decide, by decide⟩, by decide, Or.inr ⟨rfl, rfl⟩, by decide⟩
theorem pw_M_68_true_0 : PW "SealedBondsModel" true 68 12 1 0 23 := ⟨⟨j_mem 1399 (by decide +kernel), by decide, by decide⟩, by decide, Or.inr ⟨rfl, rfl⟩, by decide⟩
theorem pw_M_71_true_0 : PW "SealedBondsModel" true 71 12 1 0 24 := ⟨⟨j_mem 1400 (by decide +kernel), by decide, by decide⟩, by decide, Or.inr ⟨rfl, rfl⟩, by decide⟩
theorem pw_M_74_true_0 : PW "SealedBondsModel" true 74 12 1 0 25 := ⟨⟨j_mem 1401 (by decide +kernel), by decide, by decide⟩, by decide, Or.inr ⟨rfl, rfl⟩, by decide⟩
theorem pw_M_77_true_0 : PW "SealedBondsModel" true 77 12 1 0 26 := ⟨⟨j_mem 1402 (by decide +kernel), by decide, by decide⟩, by decide, Or.inr ⟨rfl, rfl⟩, by decide⟩
theorem pw_M_80_true_0 : PW "SealedBondsModel" true 80 12 1 0 27 := ⟨⟨j_mem 1403 (by decide +kernel), by decide, by decide⟩, by decide, Or.inr ⟨rfl, rfl⟩, by decide⟩
theorem pw_M_83_true_0 : PW "SealedBondsModel" true 83 12 1 0 28 := ⟨⟨j_mem 1404 (by decide +kernel), by decide, by decide⟩, by decide, Or.inr ⟨rfl, rfl⟩, by decide⟩
theorem pw_M_86_true_0 : PW "SealedBondsModel" true 86 12 1 0 29 := ⟨⟨j_mem 1405 (by decide +kernel), by decide, by decide⟩, by decide, Or.inr ⟨rfl, rfl⟩, by decide⟩
theorem pw_M_90_true_0 : PW "SealedBondsModel" true 90 12 1 0 31 := ⟨⟨j_mem 1407 (by decide +kernel), by decide, by decide⟩, by decide, Or.inr ⟨rfl, rfl⟩, by decide⟩
theorem pw_M_93_true_0 : PW "SealedBondsModel" true 93 12 1 0 34 := ⟨⟨j_mem 1410 (by decide +kernel), by decide, by decide⟩, by decide, Or.inr ⟨rfl, rfl⟩, by decide⟩
theorem pw_M_96_true_0 : PW "SealedBondsModel" true 96 12 1 0 35 := ⟨⟨j_mem 1411 (by decide +kernel), by decide, by decide⟩, by decide, Or.inr ⟨rfl, rfl⟩, by decide⟩
theorem pw_M_99_true_0 : PW "SealedBondsModel" true 99 12 1 0 36 := ⟨⟨j_mem 1412 (by decide +kernel), by decide, by decide⟩, by decide, Or.inr ⟨rfl, rfl⟩, by decide⟩
theorem pw_M_102_true_0 : PW "SealedBondsModel" true 102 12 1 0 42 := ⟨⟨j_mem 1418 (by decide +kernel), by decide, by decide⟩, by decide, Or.inr ⟨rfl, rfl⟩, by decide⟩
theorem pw_M_105_true_0 : PW "SealedBondsModel" true 105 12 1 0 44 := ⟨⟨j_mem 1420 (by decide +kernel), by decide, by decide⟩, by decide, Or.inr ⟨rfl, rfl⟩, by decide⟩
theorem pw_M_108_true_0 : PW "SealedBondsModel" true 108 12 1 0 45 := ⟨⟨j_mem 1421 (by decide +kernel), by decide, by decide⟩, by decide, Or.inr ⟨rfl, rfl⟩, by decide⟩
theorem pw_M_111_true_0 : PW "SealedBondsModel" true 111 12 1 0 47 := ⟨⟨j_mem 1423 (by decide +kernel), by decide, by decide⟩, by decide, Or.inr ⟨rfl, rfl⟩, by decide⟩
theorem pw_M_114_true_0 : PW "SealedBondsModel" true 114 12 1 0 49 := ⟨⟨j_mem 1425 (by decide +kernel), by decide, by decide⟩, by decide, Or.inr ⟨rfl, rfl⟩, by decide⟩
theorem pw_M_117_true_0 : PW "SealedBondsModel" true 117 12 1 0 51 := ⟨⟨j_mem 1427 (by decide +kernel), by decide, by decide⟩, by decide, Or.inr ⟨rfl, rfl⟩, by decide⟩
theorem pw_M_120_true_0 : PW "SealedBondsModel" true 120 12 1 0 56 := ⟨⟨j_mem 1432 (by decide +kernel), by decide, by decide⟩, by decide, Or.inr ⟨rfl, rfl⟩, by decide⟩
theorem pw_M_123_true_0 : PW "SealedBondsModel" true 123 12 0 0 57 := ⟨⟨j_mem 1433 (by decide +kernel), by decide, by decide⟩, by decide, Or.inl rfl, by decide⟩
theorem pw_M_127_true_0 : PW "SealedBondsModel" true 127 12 1 0 58 := ⟨⟨j_mem 1434 (by decide +kernel), by decide, by decide⟩, by decide, Or.inr ⟨rfl, rfl⟩, by decide⟩
theorem pw_M_130_true_0 : PW "SealedBondsModel" true 130 12 0 0 60 := ⟨⟨j_mem 1436 (by decide +kernel), by decide, by decide⟩, by decide, Or.inl rfl, by decide⟩
theorem pw_M_133_true_0 : PW "SealedBondsModel" true 133 12 0 0 61 := ⟨⟨j_mem 1437 (by decide +kernel), by decide, by decide⟩, by decide, Or.inl rfl, by decide⟩
theorem pw_M_136_true_0 : PW "SealedBondsModel" true 136 12 1 0 62 := ⟨⟨j_mem 1438 (by decide +kernel), by decide, by decide⟩, by decide, Or.inr ⟨rfl, rfl⟩, by decide⟩
theorem pw_M_139_true_0 : PW "SealedBondsModel" true 139 12 1 0 65 := ⟨⟨j_mem 1441 (by decide +kernel), by decide, by decide⟩, by decide, Or.inr ⟨rfl, rfl⟩, by decide⟩
theorem pw_M_142_true_0 : PW "SealedBondsModel" true 142 12 1 0 66 := ⟨⟨j_mem 1442 (by decide +kernel), by decide, by decide⟩, by decide, Or.inr ⟨rfl, rfl⟩, by decide⟩
theorem pw_M_145_true_0 : PW "SealedBondsModel" true 145 12 1 0 69 := ⟨⟨j_mem 1445 (by decide +kernel), by decide, by decide⟩, by decide, Or.inr ⟨rfl, rfl⟩, by decide⟩
theorem pw_M_148_false_0 : PW "SealedBondsModel" false 148 12 0 0 33 := ⟨⟨j_mem 1409 (by decide +kernel), by decide, by decide⟩, by decide, Or.inl rfl, by decide⟩
theorem pw_M_170_false_0 : PW "SealedBondsModel" false 170 12 0 0 32 := ⟨⟨j_mem 1408 (by decide +kernel), by decide, by decide⟩, by decide, Or.inl rfl, by decide⟩
theorem pw_M_151_false_0 : PW "SealedBondsModel" false 151 12 0 0 0 := ⟨⟨j_mem 1376 (by decide +kernel), by decide, by decide⟩, by decide, Or.inl rfl, by decide⟩
theorem pw_M_158_false_0 : PW "SealedBondsModel" false 158 12 0 0 2 := ⟨⟨j_mem 1378 (by decide +kernel), by decide, by decide⟩, by decide, Or.inl rfl, by decide⟩
theorem pw_M_173_false_1 : PW "SealedBondsModel" false 173 12 0 1 37 := ⟨⟨j_mem 1413 (by decide +kernel), by decide, by decide⟩, by decide, Or.inl rfl, by decide⟩
theorem pw_M_161_false_0 : PW "SealedBondsModel" false 161 12 0 0 3 := ⟨⟨j_mem 1379 (by decide +kernel), by decide, by decide⟩, by decide, Or.inl rfl, by decide⟩
theorem pw_M_190_false_0 : PW "SealedBondsModel" false 190 12 0 0 11 := ⟨⟨j_mem 1387 (by decide +kernel), by decide, by decide⟩, by decide, Or.inl rfl, by decide⟩
theorem pw_M_200_false_0 : PW "SealedBondsModel" false 200 12 0 0 30 := ⟨⟨j_mem 1406 (by decide +kernel), by decide, by decide⟩, by decide, Or.inl rfl, by decide⟩
theorem pw_M_203_false_0 : PW "SealedBondsModel" false 203 12 0 0 39 := ⟨⟨j_mem 1415 (by decide +kernel), by decide, by decide⟩, by decide, Or.inl rfl, by decide⟩
theorem pw_M_224_false_0 : PW "SealedBondsModel" false 224 12 0 0 43 := ⟨⟨j_mem 1419 (by decide +kernel), by decide, by decide⟩, by decide, Or.inl rfl, by decide⟩
theorem pw_M_233_false_0 : PW "SealedBondsModel" false 233 12 0 0 40 := ⟨⟨j_mem 1416 (by decide +kernel), by decide, by decide⟩, by decide, Or.inl rfl, by decide⟩
theorem pw_M_236_false_0 : PW "SealedBondsModel" false 236 12 0 0 41 := ⟨⟨j_mem 1417 (by decide +kernel), by decide, by decide⟩, by decide, Or.inl rfl, by decide⟩
theorem pw_M_243_false_0 : PW "SealedBondsModel" false 243 12 0 0 46 := ⟨⟨j_mem 1422 (by decide +kernel), by decide, by decide⟩, by decide, Or.inl rfl, by decide⟩
theorem pw_M_249_false_0 : PW "SealedBondsModel" false 249 12 0 0 48 := ⟨⟨j_mem 1424 (by decide +kernel), by decide, by decide⟩, by decide, Or.inl rfl, by decide⟩
theorem pw_M_252_false_0 : PW "SealedBondsModel" false 252 12 0 0 50 := ⟨⟨j_mem 1426 (by decide +kernel), by decide, by decide⟩, by decide, Or.inl rfl, by decide⟩
theorem pw_M_206_false_0 : PW "SealedBondsModel" false 206 12 0 0 38 := ⟨⟨j_mem 1414 (by decide +kernel), by decide, by decide⟩, by decide, Or.inl rfl, by decide⟩
theorem pw_M_334_false_0 : PW "SealedBondsModel" false 334 12 0 0 52 := ⟨⟨j_mem 1428 (by decide +kernel), by decide, by decide⟩, by decide, Or.inl rfl, by decide⟩
theorem pw_M_337_false_0 : PW "SealedBondsModel" false 337 12 0 0 53 := ⟨⟨j_mem 1429 (by decide +kernel), by decide, by decide⟩, by decide, Or.inl rfl, by decide⟩
theorem pw_M_349_false_0 : PW "SealedBondsModel" false 349 12 0 0 54 := ⟨⟨j_mem 1430 (by decide +kernel), by decide, by decide⟩, by decide, Or.inl rfl, by decide⟩
theorem pw_M_352_false_0 : PW "SealedBondsModel" false 352 12 0 0 55 := ⟨⟨j_mem 1431 (by decide +kernel), by decide, by decide⟩, by decide, Or.inl rfl, by decide⟩
theorem pw_M_361_false_1 : PW "SealedBondsModel" false 361 12 0 1 64 := ⟨⟨j_mem 1440 (by decide +kernel), by decide, by decide⟩, by decide, Or.inl rfl, by decide⟩
theorem pw_M_364_false_0 : PW "SealedBondsModel" false 364 12 0 0 63 := ⟨⟨j_mem 1439 (by decide +kernel), by decide, by decide⟩, by decide, Or.inl rfl, by decide⟩
theorem pw_M_383_false_0 : PW "SealedBondsModel" false 383 12 0 0 67 := ⟨⟨j_mem 1443 (by decide +kernel), by decide, by decide⟩, by decide, Or.inl rfl, by decide⟩
theorem pw_M_386_false_0 : PW "SealedBondsModel" false 386 12 0 0 68 := ⟨⟨j_mem 1444 (by decide +kernel), by decide, by decide⟩, by decide, Or.inl rfl, by decide⟩
theorem pw_M_346_false_0 : PW "SealedBondsModel" false 346 12 0 0 59 := ⟨⟨j_mem 1435 (by decide +kernel), by decide, by decide⟩, by decide, Or.inl rfl, by decide⟩
theorem pw_M_396_false_0 : PW "SealedBondsModel" false 396 12 0 0 70 := ⟨⟨j_mem 1446 (by decide +kernel), by decide, by decide⟩, by decide, Or.inl rfl, by decide⟩
theorem pw_M_123_false_0 : PW "SealedBondsModel" false 123 12 0 0 57 := ⟨⟨j_mem 1433 (by decide +kernel), by decide, by decide⟩, by decide, Or.inl rfl, by decide⟩
theorem pw_M_130_false_0 : PW "SealedBondsModel" false 130 12 0 0 60 := ⟨⟨j_mem 1436 (by decide +kernel), by decide, by decide⟩, by decide, Or.inl rfl, by decide⟩
theorem pw_M_133_false_0 : PW "SealedBondsModel" false 133 12 0 0 61 := ⟨⟨j_mem 1437 (by decide +kernel), by decide, by decide⟩, by decide, Or.inl rfl, by decide⟩
theorem cl_M_154 : Jvm.Cond.methodLink "SealedBondsModel" 154 ⟨"SealedBondsModel", "in", "(III)Z"⟩ ∈ jtbl := j_mem 1599 (by decide +kernel)
theorem cl_M_164 : Jvm.Cond.methodLink "SealedBondsModel" 164 ⟨"java/lang/Integer", "bitCount", "(I)I"⟩ ∈ jtbl := j_mem 1742 (by decide +kernel)
theorem cl_M_177 : Jvm.Cond.methodLink "SealedBondsModel" 177 ⟨"SealedBondsModel", "isPerson", "(I)Z"⟩ ∈ jtbl := j_mem 1610 (by decide +kernel)
theorem cl_M_181 : Jvm.Cond.methodLink "SealedBondsModel" 181 ⟨"SealedBondsModel", "isOffice", "(I)Z"⟩ ∈ jtbl := j_mem 1614 (by decide +kernel)
theorem cl_M_184 : Jvm.Cond.methodLink "SealedBondsModel" 184 ⟨"SealedBondsModel", "isBond", "(I)Z"⟩ ∈ jtbl := j_mem 1622 (by decide +kernel)
theorem cl_M_187 : Jvm.Cond.methodLink "SealedBondsModel" 187 ⟨"SealedBondsModel", "placeOf", "(I)I"⟩ ∈ jtbl := j_mem 1626 (by decide +kernel)
theorem cl_M_193 : Jvm.Cond.methodLink "SealedBondsModel" 193 ⟨"SealedBondsModel", "coupleOf", "(I)I"⟩ ∈ jtbl := j_mem 1638 (by decide +kernel)
theorem cl_M_196 : Jvm.Cond.methodLink "SealedBondsModel" 196 ⟨"SealedBondsModel", "isOf", "(II)Z"⟩ ∈ jtbl := j_mem 1646 (by decide +kernel)
theorem cl_M_209 : Jvm.Cond.methodLink "SealedBondsModel" 209 ⟨"SealedBondsModel", "here", "()I"⟩ ∈ jtbl := j_mem 1670 (by decide +kernel)
theorem cl_M_213 : Jvm.Cond.methodLink "SealedBondsModel" 213 ⟨"SealedBondsModel", "digit", "(C)I"⟩ ∈ jtbl := j_mem 1678 (by decide +kernel)
theorem cl_M_227 : Jvm.Cond.methodLink "SealedBondsModel" 227 ⟨"SealedBondsModel", "passes", "(I)Z"⟩ ∈ jtbl := j_mem 1666 (by decide +kernel)
theorem cl_M_230 : Jvm.Cond.methodLink "SealedBondsModel" 230 ⟨"SealedBondsModel", "number", "()I"⟩ ∈ jtbl := j_mem 1674 (by decide +kernel)
theorem cl_M_239 : Jvm.Cond.methodLink "SealedBondsModel" 239 ⟨"SealedBondsModel", "key", "()Z"⟩ ∈ jtbl := j_mem 1682 (by decide +kernel)
theorem cl_M_246 : Jvm.Cond.methodLink "SealedBondsModel" 246 ⟨"SealedBondsModel", "two", "(C)I"⟩ ∈ jtbl := j_mem 1688 (by decide +kernel)
theorem cl_M_255 : Jvm.Cond.methodLink "SealedBondsModel" 255 ⟨"SealedBondsModel", "line", "()Z"⟩ ∈ jtbl := j_mem 1662 (by decide +kernel)
theorem cl_M_258 : Jvm.Cond.methodLink "SealedBondsModel" 258 ⟨"SealedBondsModel", "valueOf", "(II)I"⟩ ∈ jtbl := j_mem 1716 (by decide +kernel)
theorem cl_M_262 : Jvm.Cond.methodLink "SealedBondsModel" 262 ⟨"SealedBondsModel", "has", "(II)Z"⟩ ∈ jtbl := j_mem 1724 (by decide +kernel)
theorem cl_M_265 : Jvm.Cond.methodLink "SealedBondsModel" 265 ⟨"SealedBondsModel", "peopleOf", "(I)I"⟩ ∈ jtbl := j_mem 1735 (by decide +kernel)
theorem cl_M_268 : Jvm.Cond.methodLink "SealedBondsModel" 268 ⟨"SealedBondsModel", "many", "(I)I"⟩ ∈ jtbl := j_mem 1739 (by decide +kernel)
theorem cl_M_271 : Jvm.Cond.methodLink "SealedBondsModel" 271 ⟨"SealedBondsModel", "payOf", "(I)I"⟩ ∈ jtbl := j_mem 1743 (by decide +kernel)
theorem cl_M_274 : Jvm.Cond.methodLink "SealedBondsModel" 274 ⟨"java/lang/Math", "max", "(II)I"⟩ ∈ jtbl := j_mem 1747 (by decide +kernel)
theorem cl_M_279 : Jvm.Cond.methodLink "SealedBondsModel" 279 ⟨"SealedBondsModel", "breach", "(II)I"⟩ ∈ jtbl := j_mem 1731 (by decide +kernel)
theorem cl_M_282 : Jvm.Cond.methodLink "SealedBondsModel" 282 ⟨"SealedBondsModel", "isAhead", "(III)Z"⟩ ∈ jtbl := j_mem 1712 (by decide +kernel)
theorem cl_M_285 : Jvm.Cond.methodLink "SealedBondsModel" 285 ⟨"SealedBondsModel", "spread", "(II)I"⟩ ∈ jtbl := j_mem 1720 (by decide +kernel)
theorem cl_M_288 : Jvm.Cond.methodLink "SealedBondsModel" 288 ⟨"SealedBondsModel", "isAllowed", "(II)Z"⟩ ∈ jtbl := j_mem 1727 (by decide +kernel)
theorem cl_M_291 : Jvm.Cond.methodLink "SealedBondsModel" 291 ⟨"SealedBondsModel", "make", "(I)V"⟩ ∈ jtbl := j_mem 1708 (by decide +kernel)
theorem cl_M_295 : Jvm.Cond.methodLink "SealedBondsModel" 295 ⟨"SealedBondsModel", "make", "()V"⟩ ∈ jtbl := j_mem 1704 (by decide +kernel)
theorem cl_M_297 : Jvm.Cond.methodLink "SealedBondsModel" 297 ⟨"SealedBondsModel", "gather", "(II)I"⟩ ∈ jtbl := j_mem 1748 (by decide +kernel)
theorem cl_M_300 : Jvm.Cond.methodLink "SealedBondsModel" 300 ⟨"SealedBondsModel", "isSet", "(I)Z"⟩ ∈ jtbl := j_mem 1696 (by decide +kernel)
theorem cl_M_303 : Jvm.Cond.methodLink "SealedBondsModel" 303 ⟨"SealedBondsModel", "takeOf", "(II)I"⟩ ∈ jtbl := j_mem 1700 (by decide +kernel)
theorem cl_M_306 : Jvm.Cond.methodLink "SealedBondsModel" 306 ⟨"SealedBondsModel", "bondsOf", "(I)I"⟩ ∈ jtbl := j_mem 1764 (by decide +kernel)
theorem cl_M_309 : Jvm.Cond.methodLink "SealedBondsModel" 309 ⟨"SealedBondsModel", "tell", "(I)V"⟩ ∈ jtbl := j_mem 1768 (by decide +kernel)
theorem cl_M_312 : Jvm.Cond.methodLink "SealedBondsModel" 312 ⟨"java/lang/Integer", "numberOfTrailingZeros", "(I)I"⟩ ∈ jtbl := j_mem 1772 (by decide +kernel)
theorem cl_M_315 : Jvm.Cond.methodLink "SealedBondsModel" 315 ⟨"SealedBondsModel", "bondOf", "(II)I"⟩ ∈ jtbl := j_mem 1789 (by decide +kernel)
theorem cl_M_318 : Jvm.Cond.methodLink "SealedBondsModel" 318 ⟨"SealedBondsModel", "rank", "(II)I"⟩ ∈ jtbl := j_mem 1785 (by decide +kernel)
theorem cl_M_321 : Jvm.Cond.methodLink "SealedBondsModel" 321 ⟨"SealedBondsModel", "rankOfCouple", "(II)I"⟩ ∈ jtbl := j_mem 1793 (by decide +kernel)
theorem cl_M_324 : Jvm.Cond.methodLink "SealedBondsModel" 324 ⟨"SealedBondsModel", "isFree", "(I)Z"⟩ ∈ jtbl := j_mem 1781 (by decide +kernel)
theorem cl_M_327 : Jvm.Cond.methodLink "SealedBondsModel" 327 ⟨"SealedBondsModel", "wanted", "(I)I"⟩ ∈ jtbl := j_mem 1797 (by decide +kernel)
theorem cl_M_330 : Jvm.Cond.methodLink "SealedBondsModel" 330 ⟨"SealedBondsModel", "breaking", "(III)I"⟩ ∈ jtbl := j_mem 1801 (by decide +kernel)
theorem cl_M_340 : Jvm.Cond.methodLink "SealedBondsModel" 340 ⟨"SealedBondsModel", "breakingPair", "(II)I"⟩ ∈ jtbl := j_mem 1805 (by decide +kernel)
theorem cl_M_343 : Jvm.Cond.methodLink "SealedBondsModel" 343 ⟨"SealedBondsModel", "judgeOf", "(I)I"⟩ ∈ jtbl := j_mem 1777 (by decide +kernel)
theorem cl_M_355 : Jvm.Cond.methodLink "SealedBondsModel" 355 ⟨"SealedBondsModel", "nextOf", "(I)I"⟩ ∈ jtbl := j_mem 1817 (by decide +kernel)
theorem cl_M_358 : Jvm.Cond.methodLink "SealedBondsModel" 358 ⟨"SealedBondsModel", "outcome", "()I"⟩ ∈ jtbl := j_mem 1813 (by decide +kernel)
theorem cl_M_367 : Jvm.Cond.methodLink "SealedBondsModel" 367 ⟨"SealedBondsModel", "goThrough", "(IIZ)V"⟩ ∈ jtbl := j_mem 1829 (by decide +kernel)
theorem cl_M_371 : Jvm.Cond.methodLink "SealedBondsModel" 371 ⟨"SealedBondsModel", "findAll", "()V"⟩ ∈ jtbl := j_mem 1825 (by decide +kernel)
theorem cl_M_374 : Jvm.Cond.methodLink "SealedBondsModel" 374 ⟨"SealedBondsModel", "isBetter", "(II)Z"⟩ ∈ jtbl := j_mem 1837 (by decide +kernel)
theorem cl_M_377 : Jvm.Cond.methodLink "SealedBondsModel" 377 ⟨"SealedBondsModel", "isNext", "(II)Z"⟩ ∈ jtbl := j_mem 1845 (by decide +kernel)
theorem cl_M_380 : Jvm.Cond.methodLink "SealedBondsModel" 380 ⟨"SealedBondsModel", "offOf", "(I)I"⟩ ∈ jtbl := j_mem 1857 (by decide +kernel)
theorem cl_M_389 : Jvm.Cond.methodLink "SealedBondsModel" 389 ⟨"SealedBondsModel", "goNear", "(II)V"⟩ ∈ jtbl := j_mem 1853 (by decide +kernel)
theorem cl_M_393 : Jvm.Cond.methodLink "SealedBondsModel" 393 ⟨"SealedBondsModel", "share", "(II)Z"⟩ ∈ jtbl := j_mem 1865 (by decide +kernel)
theorem cl_M_399 : Jvm.Cond.methodLink "SealedBondsModel" 399 ⟨"SealedBondsModel", "lie", "(III)Z"⟩ ∈ jtbl := j_mem 1873 (by decide +kernel)
theorem cl_M_402 : Jvm.Cond.methodLink "SealedBondsModel" 402 ⟨"SealedBondsModel", "lost", "()I"⟩ ∈ jtbl := j_mem 1909 (by decide +kernel)
theorem oi_M_1 : Jvm.Cond.methodLink "SealedBondsModel" 1 objectInit ∈ jtbl := j_mem 1375 (by decide +kernel)
theorem d_M_init_0 : decode prog_14_method_1_code 0 = .ok (.aload_n 0, 1) := by decide +kernel
theorem d_M_init_1 : decode prog_14_method_1_code 1 = .ok (.invokespecial 1, 3) := by decide +kernel
theorem d_M_init_4 : decode prog_14_method_1_code 4 = .ok (.aload_n 0, 1) := by decide +kernel
theorem d_M_init_5 : decode prog_14_method_1_code 5 = .ok (.bipush 7, 2) := by decide +kernel
theorem d_M_init_7 : decode prog_14_method_1_code 7 = .ok (.newarray .int, 2) := by decide +kernel
theorem d_M_init_9 : decode prog_14_method_1_code 9 = .ok (.putfield 9, 3) := by decide +kernel
theorem d_M_init_12 : decode prog_14_method_1_code 12 = .ok (.aload_n 0, 1) := by decide +kernel
theorem d_M_init_13 : decode prog_14_method_1_code 13 = .ok (.bipush 20, 2) := by decide +kernel
theorem d_M_init_15 : decode prog_14_method_1_code 15 = .ok (.newarray .int, 2) := by decide +kernel
theorem d_M_init_17 : decode prog_14_method_1_code 17 = .ok (.putfield 13, 3) := by decide +kernel
theorem d_M_init_20 : decode prog_14_method_1_code 20 = .ok (.aload_n 0, 1) := by decide +kernel
theorem d_M_init_21 : decode prog_14_method_1_code 21 = .ok (.bipush 20, 2) := by decide +kernel
theorem d_M_init_23 : decode prog_14_method_1_code 23 = .ok (.newarray .int, 2) := by decide +kernel
theorem d_M_init_25 : decode prog_14_method_1_code 25 = .ok (.putfield 16, 3) := by decide +kernel
theorem d_M_init_28 : decode prog_14_method_1_code 28 = .ok (.aload_n 0, 1) := by decide +kernel
theorem d_M_init_29 : decode prog_14_method_1_code 29 = .ok (.bipush 20, 2) := by decide +kernel
theorem d_M_init_31 : decode prog_14_method_1_code 31 = .ok (.newarray .int, 2) := by decide +kernel
theorem d_M_init_33 : decode prog_14_method_1_code 33 = .ok (.putfield 19, 3) := by decide +kernel
theorem d_M_init_36 : decode prog_14_method_1_code 36 = .ok (.aload_n 0, 1) := by decide +kernel
theorem d_M_init_37 : decode prog_14_method_1_code 37 = .ok (.bipush 20, 2) := by decide +kernel
theorem d_M_init_39 : decode prog_14_method_1_code 39 = .ok (.newarray .int, 2) := by decide +kernel
theorem d_M_init_41 : decode prog_14_method_1_code 41 = .ok (.putfield 22, 3) := by decide +kernel
theorem d_M_init_44 : decode prog_14_method_1_code 44 = .ok (.aload_n 0, 1) := by decide +kernel
theorem d_M_init_45 : decode prog_14_method_1_code 45 = .ok (.bipush 20, 2) := by decide +kernel
theorem d_M_init_47 : decode prog_14_method_1_code 47 = .ok (.newarray .int, 2) := by decide +kernel
theorem d_M_init_49 : decode prog_14_method_1_code 49 = .ok (.putfield 25, 3) := by decide +kernel
theorem d_M_init_52 : decode prog_14_method_1_code 52 = .ok (.aload_n 0, 1) := by decide +kernel
theorem d_M_init_53 : decode prog_14_method_1_code 53 = .ok (.bipush 35, 2) := by decide +kernel
theorem d_M_init_55 : decode prog_14_method_1_code 55 = .ok (.newarray .int, 2) := by decide +kernel
theorem d_M_init_57 : decode prog_14_method_1_code 57 = .ok (.putfield 28, 3) := by decide +kernel
theorem d_M_init_60 : decode prog_14_method_1_code 60 = .ok (.aload_n 0, 1) := by decide +kernel
theorem d_M_init_61 : decode prog_14_method_1_code 61 = .ok (.bipush 7, 2) := by decide +kernel
theorem d_M_init_63 : decode prog_14_method_1_code 63 = .ok (.newarray .int, 2) := by decide +kernel
theorem d_M_init_65 : decode prog_14_method_1_code 65 = .ok (.putfield 31, 3) := by decide +kernel
theorem d_M_init_68 : decode prog_14_method_1_code 68 = .ok (.aload_n 0, 1) := by decide +kernel
theorem d_M_init_69 : decode prog_14_method_1_code 69 = .ok (.iconst 2, 1) := by decide +kernel
theorem d_M_init_70 : decode prog_14_method_1_code 70 = .ok (.newarray .int, 2) := by decide +kernel
theorem d_M_init_72 : decode prog_14_method_1_code 72 = .ok (.putfield 34, 3) := by decide +kernel
theorem d_M_init_75 : decode prog_14_method_1_code 75 = .ok (.aload_n 0, 1) := by decide +kernel
theorem d_M_init_76 : decode prog_14_method_1_code 76 = .ok (.iconst 2, 1) := by decide +kernel
theorem d_M_init_77 : decode prog_14_method_1_code 77 = .ok (.newarray .int, 2) := by decide +kernel
theorem d_M_init_79 : decode prog_14_method_1_code 79 = .ok (.putfield 37, 3) := by decide +kernel
theorem d_M_init_82 : decode prog_14_method_1_code 82 = .ok (.aload_n 0, 1) := by decide +kernel
theorem d_M_init_83 : decode prog_14_method_1_code 83 = .ok (.bipush 16, 2) := by decide +kernel
theorem d_M_init_85 : decode prog_14_method_1_code 85 = .ok (.newarray .int, 2) := by decide +kernel
theorem d_M_init_87 : decode prog_14_method_1_code 87 = .ok (.putfield 40, 3) := by decide +kernel
theorem d_M_init_90 : decode prog_14_method_1_code 90 = .ok (.aload_n 0, 1) := by decide +kernel
theorem d_M_init_91 : decode prog_14_method_1_code 91 = .ok (.bipush 16, 2) := by decide +kernel
theorem d_M_init_93 : decode prog_14_method_1_code 93 = .ok (.newarray .int, 2) := by decide +kernel
theorem d_M_init_95 : decode prog_14_method_1_code 95 = .ok (.putfield 43, 3) := by decide +kernel
theorem d_M_init_98 : decode prog_14_method_1_code 98 = .ok (.aload_n 0, 1) := by decide +kernel
theorem d_M_init_99 : decode prog_14_method_1_code 99 = .ok (.iconst 2, 1) := by decide +kernel
theorem d_M_init_100 : decode prog_14_method_1_code 100 = .ok (.newarray .int, 2) := by decide +kernel
theorem d_M_init_102 : decode prog_14_method_1_code 102 = .ok (.putfield 46, 3) := by decide +kernel
theorem d_M_init_105 : decode prog_14_method_1_code 105 = .ok (.aload_n 0, 1) := by decide +kernel
theorem d_M_init_106 : decode prog_14_method_1_code 106 = .ok (.iconst 4, 1) := by decide +kernel
theorem d_M_init_107 : decode prog_14_method_1_code 107 = .ok (.newarray .boolean, 2) := by decide +kernel
theorem d_M_init_109 : decode prog_14_method_1_code 109 = .ok (.putfield 49, 3) := by decide +kernel
theorem d_M_init_112 : decode prog_14_method_1_code 112 = .ok (.aload_n 0, 1) := by decide +kernel
theorem d_M_init_113 : decode prog_14_method_1_code 113 = .ok (.iconst 4, 1) := by decide +kernel
theorem d_M_init_114 : decode prog_14_method_1_code 114 = .ok (.newarray .int, 2) := by decide +kernel
theorem d_M_init_116 : decode prog_14_method_1_code 116 = .ok (.putfield 53, 3) := by decide +kernel
theorem d_M_init_119 : decode prog_14_method_1_code 119 = .ok (.aload_n 0, 1) := by decide +kernel
theorem d_M_init_120 : decode prog_14_method_1_code 120 = .ok (.iconst 4, 1) := by decide +kernel
theorem d_M_init_121 : decode prog_14_method_1_code 121 = .ok (.newarray .int, 2) := by decide +kernel
theorem d_M_init_123 : decode prog_14_method_1_code 123 = .ok (.putfield 56, 3) := by decide +kernel
theorem d_M_init_126 : decode prog_14_method_1_code 126 = .ok (.aload_n 0, 1) := by decide +kernel
theorem d_M_init_127 : decode prog_14_method_1_code 127 = .ok (.bipush 20, 2) := by decide +kernel
theorem d_M_init_129 : decode prog_14_method_1_code 129 = .ok (.newarray .int, 2) := by decide +kernel
theorem d_M_init_131 : decode prog_14_method_1_code 131 = .ok (.putfield 59, 3) := by decide +kernel
theorem d_M_init_134 : decode prog_14_method_1_code 134 = .ok (.aload_n 0, 1) := by decide +kernel
theorem d_M_init_135 : decode prog_14_method_1_code 135 = .ok (.iconst 4, 1) := by decide +kernel
theorem d_M_init_136 : decode prog_14_method_1_code 136 = .ok (.newarray .int, 2) := by decide +kernel
theorem d_M_init_138 : decode prog_14_method_1_code 138 = .ok (.putfield 62, 3) := by decide +kernel
theorem d_M_init_141 : decode prog_14_method_1_code 141 = .ok (.aload_n 0, 1) := by decide +kernel
theorem d_M_init_142 : decode prog_14_method_1_code 142 = .ok (.bipush 120, 2) := by decide +kernel
theorem d_M_init_144 : decode prog_14_method_1_code 144 = .ok (.newarray .int, 2) := by decide +kernel
theorem d_M_init_146 : decode prog_14_method_1_code 146 = .ok (.putfield 65, 3) := by decide +kernel
theorem d_M_init_149 : decode prog_14_method_1_code 149 = .ok (.aload_n 0, 1) := by decide +kernel
theorem d_M_init_150 : decode prog_14_method_1_code 150 = .ok (.bipush 120, 2) := by decide +kernel
theorem d_M_init_152 : decode prog_14_method_1_code 152 = .ok (.newarray .int, 2) := by decide +kernel
theorem d_M_init_154 : decode prog_14_method_1_code 154 = .ok (.putfield 68, 3) := by decide +kernel
theorem d_M_init_157 : decode prog_14_method_1_code 157 = .ok (.aload_n 0, 1) := by decide +kernel
theorem d_M_init_158 : decode prog_14_method_1_code 158 = .ok (.iconst 4, 1) := by decide +kernel
theorem d_M_init_159 : decode prog_14_method_1_code 159 = .ok (.newarray .int, 2) := by decide +kernel
theorem d_M_init_161 : decode prog_14_method_1_code 161 = .ok (.putfield 71, 3) := by decide +kernel
theorem d_M_init_164 : decode prog_14_method_1_code 164 = .ok (.aload_n 0, 1) := by decide +kernel
theorem d_M_init_165 : decode prog_14_method_1_code 165 = .ok (.bipush 120, 2) := by decide +kernel
theorem d_M_init_167 : decode prog_14_method_1_code 167 = .ok (.newarray .int, 2) := by decide +kernel
theorem d_M_init_169 : decode prog_14_method_1_code 169 = .ok (.putfield 74, 3) := by decide +kernel
theorem d_M_init_172 : decode prog_14_method_1_code 172 = .ok (.aload_n 0, 1) := by decide +kernel
theorem d_M_init_173 : decode prog_14_method_1_code 173 = .ok (.iconst 4, 1) := by decide +kernel
theorem d_M_init_174 : decode prog_14_method_1_code 174 = .ok (.newarray .int, 2) := by decide +kernel
theorem d_M_init_176 : decode prog_14_method_1_code 176 = .ok (.putfield 77, 3) := by decide +kernel
theorem d_M_init_179 : decode prog_14_method_1_code 179 = .ok (.aload_n 0, 1) := by decide +kernel
theorem d_M_init_180 : decode prog_14_method_1_code 180 = .ok (.bipush 120, 2) := by decide +kernel
theorem d_M_init_182 : decode prog_14_method_1_code 182 = .ok (.newarray .int, 2) := by decide +kernel
theorem d_M_init_184 : decode prog_14_method_1_code 184 = .ok (.putfield 80, 3) := by decide +kernel
theorem d_M_init_187 : decode prog_14_method_1_code 187 = .ok (.aload_n 0, 1) := by decide +kernel
theorem d_M_init_188 : decode prog_14_method_1_code 188 = .ok (.iconst 4, 1) := by decide +kernel
theorem d_M_init_189 : decode prog_14_method_1_code 189 = .ok (.newarray .int, 2) := by decide +kernel
theorem d_M_init_191 : decode prog_14_method_1_code 191 = .ok (.putfield 83, 3) := by decide +kernel
theorem d_M_init_194 : decode prog_14_method_1_code 194 = .ok (.aload_n 0, 1) := by decide +kernel
theorem d_M_init_195 : decode prog_14_method_1_code 195 = .ok (.bipush 100, 2) := by decide +kernel
theorem d_M_init_197 : decode prog_14_method_1_code 197 = .ok (.newarray .byte, 2) := by decide +kernel
theorem d_M_init_199 : decode prog_14_method_1_code 199 = .ok (.putfield 86, 3) := by decide +kernel
theorem d_M_init_202 : decode prog_14_method_1_code 202 = .ok (.aload_n 0, 1) := by decide +kernel
theorem d_M_init_203 : decode prog_14_method_1_code 203 = .ok (.bipush 40, 2) := by decide +kernel
theorem d_M_init_205 : decode prog_14_method_1_code 205 = .ok (.newarray .int, 2) := by decide +kernel
theorem d_M_init_207 : decode prog_14_method_1_code 207 = .ok (.putfield 90, 3) := by decide +kernel
theorem d_M_init_210 : decode prog_14_method_1_code 210 = .ok (.aload_n 0, 1) := by decide +kernel
theorem d_M_init_211 : decode prog_14_method_1_code 211 = .ok (.bipush 32, 2) := by decide +kernel
theorem d_M_init_213 : decode prog_14_method_1_code 213 = .ok (.newarray .int, 2) := by decide +kernel
theorem d_M_init_215 : decode prog_14_method_1_code 215 = .ok (.putfield 93, 3) := by decide +kernel
theorem d_M_init_218 : decode prog_14_method_1_code 218 = .ok (.aload_n 0, 1) := by decide +kernel
theorem d_M_init_219 : decode prog_14_method_1_code 219 = .ok (.iconst 4, 1) := by decide +kernel
theorem d_M_init_220 : decode prog_14_method_1_code 220 = .ok (.newarray .int, 2) := by decide +kernel
theorem d_M_init_222 : decode prog_14_method_1_code 222 = .ok (.putfield 96, 3) := by decide +kernel
theorem d_M_init_225 : decode prog_14_method_1_code 225 = .ok (.aload_n 0, 1) := by decide +kernel
theorem d_M_init_226 : decode prog_14_method_1_code 226 = .ok (.sipush 1024, 3) := by decide +kernel
theorem d_M_init_229 : decode prog_14_method_1_code 229 = .ok (.newarray .int, 2) := by decide +kernel
theorem d_M_init_231 : decode prog_14_method_1_code 231 = .ok (.putfield 99, 3) := by decide +kernel
theorem d_M_init_234 : decode prog_14_method_1_code 234 = .ok (.aload_n 0, 1) := by decide +kernel
theorem d_M_init_235 : decode prog_14_method_1_code 235 = .ok (.iconst 5, 1) := by decide +kernel
theorem d_M_init_236 : decode prog_14_method_1_code 236 = .ok (.newarray .int, 2) := by decide +kernel
theorem d_M_init_238 : decode prog_14_method_1_code 238 = .ok (.putfield 102, 3) := by decide +kernel
theorem d_M_init_241 : decode prog_14_method_1_code 241 = .ok (.aload_n 0, 1) := by decide +kernel
theorem d_M_init_242 : decode prog_14_method_1_code 242 = .ok (.bipush 30, 2) := by decide +kernel
theorem d_M_init_244 : decode prog_14_method_1_code 244 = .ok (.newarray .int, 2) := by decide +kernel
theorem d_M_init_246 : decode prog_14_method_1_code 246 = .ok (.putfield 105, 3) := by decide +kernel
theorem d_M_init_249 : decode prog_14_method_1_code 249 = .ok (.aload_n 0, 1) := by decide +kernel
theorem d_M_init_250 : decode prog_14_method_1_code 250 = .ok (.bipush 30, 2) := by decide +kernel
theorem d_M_init_252 : decode prog_14_method_1_code 252 = .ok (.newarray .int, 2) := by decide +kernel
theorem d_M_init_254 : decode prog_14_method_1_code 254 = .ok (.putfield 108, 3) := by decide +kernel
theorem d_M_init_257 : decode prog_14_method_1_code 257 = .ok (.aload_n 0, 1) := by decide +kernel
theorem d_M_init_258 : decode prog_14_method_1_code 258 = .ok (.bipush 30, 2) := by decide +kernel
theorem d_M_init_260 : decode prog_14_method_1_code 260 = .ok (.newarray .int, 2) := by decide +kernel
theorem d_M_init_262 : decode prog_14_method_1_code 262 = .ok (.putfield 111, 3) := by decide +kernel
theorem d_M_init_265 : decode prog_14_method_1_code 265 = .ok (.aload_n 0, 1) := by decide +kernel
theorem d_M_init_266 : decode prog_14_method_1_code 266 = .ok (.bipush 30, 2) := by decide +kernel
theorem d_M_init_268 : decode prog_14_method_1_code 268 = .ok (.newarray .int, 2) := by decide +kernel
theorem d_M_init_270 : decode prog_14_method_1_code 270 = .ok (.putfield 114, 3) := by decide +kernel
theorem d_M_init_273 : decode prog_14_method_1_code 273 = .ok (.aload_n 0, 1) := by decide +kernel
theorem d_M_init_274 : decode prog_14_method_1_code 274 = .ok (.sipush 256, 3) := by decide +kernel
theorem d_M_init_277 : decode prog_14_method_1_code 277 = .ok (.newarray .boolean, 2) := by decide +kernel
theorem d_M_init_279 : decode prog_14_method_1_code 279 = .ok (.putfield 117, 3) := by decide +kernel
theorem d_M_init_282 : decode prog_14_method_1_code 282 = .ok (.aload_n 0, 1) := by decide +kernel
theorem d_M_init_283 : decode prog_14_method_1_code 283 = .ok (.bipush 7, 2) := by decide +kernel
theorem d_M_init_285 : decode prog_14_method_1_code 285 = .ok (.newarray .int, 2) := by decide +kernel
theorem d_M_init_287 : decode prog_14_method_1_code 287 = .ok (.putfield 120, 3) := by decide +kernel
theorem d_M_init_290 : decode prog_14_method_1_code 290 = .ok (.aload_n 0, 1) := by decide +kernel
theorem d_M_init_291 : decode prog_14_method_1_code 291 = .ok (.iconst (-1), 1) := by decide +kernel
theorem d_M_init_292 : decode prog_14_method_1_code 292 = .ok (.putfield 123, 3) := by decide +kernel
theorem d_M_init_295 : decode prog_14_method_1_code 295 = .ok (.aload_n 0, 1) := by decide +kernel
theorem d_M_init_296 : decode prog_14_method_1_code 296 = .ok (.iconst 5, 1) := by decide +kernel
theorem d_M_init_297 : decode prog_14_method_1_code 297 = .ok (.newarray .int, 2) := by decide +kernel
theorem d_M_init_299 : decode prog_14_method_1_code 299 = .ok (.putfield 127, 3) := by decide +kernel
theorem d_M_init_302 : decode prog_14_method_1_code 302 = .ok (.aload_n 0, 1) := by decide +kernel
theorem d_M_init_303 : decode prog_14_method_1_code 303 = .ok (.iconst (-1), 1) := by decide +kernel
theorem d_M_init_304 : decode prog_14_method_1_code 304 = .ok (.putfield 130, 3) := by decide +kernel
theorem d_M_init_307 : decode prog_14_method_1_code 307 = .ok (.aload_n 0, 1) := by decide +kernel
theorem d_M_init_308 : decode prog_14_method_1_code 308 = .ok (.iconst (-1), 1) := by decide +kernel
theorem d_M_init_309 : decode prog_14_method_1_code 309 = .ok (.putfield 133, 3) := by decide +kernel
theorem d_M_init_312 : decode prog_14_method_1_code 312 = .ok (.aload_n 0, 1) := by decide +kernel
theorem d_M_init_313 : decode prog_14_method_1_code 313 = .ok (.sipush 12300, 3) := by decide +kernel
theorem d_M_init_316 : decode prog_14_method_1_code 316 = .ok (.newarray .int, 2) := by decide +kernel
theorem d_M_init_318 : decode prog_14_method_1_code 318 = .ok (.putfield 136, 3) := by decide +kernel
theorem d_M_init_321 : decode prog_14_method_1_code 321 = .ok (.aload_n 0, 1) := by decide +kernel
theorem d_M_init_322 : decode prog_14_method_1_code 322 = .ok (.sipush 12300, 3) := by decide +kernel
theorem d_M_init_325 : decode prog_14_method_1_code 325 = .ok (.newarray .int, 2) := by decide +kernel
theorem d_M_init_327 : decode prog_14_method_1_code 327 = .ok (.putfield 139, 3) := by decide +kernel
theorem d_M_init_330 : decode prog_14_method_1_code 330 = .ok (.aload_n 0, 1) := by decide +kernel
theorem d_M_init_331 : decode prog_14_method_1_code 331 = .ok (.sipush 12300, 3) := by decide +kernel
theorem d_M_init_334 : decode prog_14_method_1_code 334 = .ok (.newarray .int, 2) := by decide +kernel
theorem d_M_init_336 : decode prog_14_method_1_code 336 = .ok (.putfield 142, 3) := by decide +kernel
theorem d_M_init_339 : decode prog_14_method_1_code 339 = .ok (.aload_n 0, 1) := by decide +kernel
theorem d_M_init_340 : decode prog_14_method_1_code 340 = .ok (.iconst 4, 1) := by decide +kernel
theorem d_M_init_341 : decode prog_14_method_1_code 341 = .ok (.newarray .int, 2) := by decide +kernel
theorem d_M_init_343 : decode prog_14_method_1_code 343 = .ok (.putfield 145, 3) := by decide +kernel
theorem d_M_init_346 : decode prog_14_method_1_code 346 = .ok (.return_, 1) := by decide +kernel
theorem d_M_thrown_0 : decode prog_14_method_2_code 0 = .ok (.aload_n 0, 1) := by decide +kernel
theorem d_M_thrown_1 : decode prog_14_method_2_code 1 = .ok (.getfield 148, 3) := by decide +kernel
theorem d_M_thrown_4 : decode prog_14_method_2_code 4 = .ok (.ireturn, 1) := by decide +kernel
theorem d_M_in_0 : decode prog_14_method_3_code 0 = .ok (.iload_n 0, 1) := by decide +kernel
theorem d_M_in_1 : decode prog_14_method_3_code 1 = .ok (.iload_n 1, 1) := by decide +kernel
theorem d_M_in_2 : decode prog_14_method_3_code 2 = .ok (.if_icmp .lt 12, 3) := by decide +kernel
theorem d_M_in_5 : decode prog_14_method_3_code 5 = .ok (.iload_n 0, 1) := by decide +kernel
theorem d_M_in_6 : decode prog_14_method_3_code 6 = .ok (.iload_n 2, 1) := by decide +kernel
theorem d_M_in_7 : decode prog_14_method_3_code 7 = .ok (.if_icmp .gt 7, 3) := by decide +kernel
theorem d_M_in_10 : decode prog_14_method_3_code 10 = .ok (.iconst 1, 1) := by decide +kernel
theorem d_M_in_11 : decode prog_14_method_3_code 11 = .ok (.goto 4, 3) := by decide +kernel
theorem d_M_in_14 : decode prog_14_method_3_code 14 = .ok (.iconst 0, 1) := by decide +kernel
theorem d_M_in_15 : decode prog_14_method_3_code 15 = .ok (.ireturn, 1) := by decide +kernel
theorem d_M_lost_0 : decode prog_14_method_4_code 0 = .ok (.aload_n 0, 1) := by decide +kernel
theorem d_M_lost_1 : decode prog_14_method_4_code 1 = .ok (.iconst 1, 1) := by decide +kernel
theorem d_M_lost_2 : decode prog_14_method_4_code 2 = .ok (.putfield 148, 3) := by decide +kernel
theorem d_M_lost_5 : decode prog_14_method_4_code 5 = .ok (.iconst 0, 1) := by decide +kernel
theorem d_M_lost_6 : decode prog_14_method_4_code 6 = .ok (.ireturn, 1) := by decide +kernel
theorem d_M_isPerson_0 : decode prog_14_method_5_code 0 = .ok (.iload_n 1, 1) := by decide +kernel
theorem d_M_isPerson_1 : decode prog_14_method_5_code 1 = .ok (.iconst 0, 1) := by decide +kernel
theorem d_M_isPerson_2 : decode prog_14_method_5_code 2 = .ok (.aload_n 0, 1) := by decide +kernel
theorem d_M_isPerson_3 : decode prog_14_method_5_code 3 = .ok (.getfield 151, 3) := by decide +kernel
theorem d_M_isPerson_6 : decode prog_14_method_5_code 6 = .ok (.iconst 1, 1) := by decide +kernel
theorem d_M_isPerson_7 : decode prog_14_method_5_code 7 = .ok (.isub, 1) := by decide +kernel
theorem d_M_isPerson_8 : decode prog_14_method_5_code 8 = .ok (.invokestatic 154, 3) := by decide +kernel
theorem d_M_isPerson_11 : decode prog_14_method_5_code 11 = .ok (.ireturn, 1) := by decide +kernel
theorem d_M_isOffice_0 : decode prog_14_method_6_code 0 = .ok (.iload_n 1, 1) := by decide +kernel
theorem d_M_isOffice_1 : decode prog_14_method_6_code 1 = .ok (.iconst 0, 1) := by decide +kernel
theorem d_M_isOffice_2 : decode prog_14_method_6_code 2 = .ok (.aload_n 0, 1) := by decide +kernel
theorem d_M_isOffice_3 : decode prog_14_method_6_code 3 = .ok (.getfield 158, 3) := by decide +kernel
theorem d_M_isOffice_6 : decode prog_14_method_6_code 6 = .ok (.iconst 1, 1) := by decide +kernel
theorem d_M_isOffice_7 : decode prog_14_method_6_code 7 = .ok (.isub, 1) := by decide +kernel
theorem d_M_isOffice_8 : decode prog_14_method_6_code 8 = .ok (.invokestatic 154, 3) := by decide +kernel
theorem d_M_isOffice_11 : decode prog_14_method_6_code 11 = .ok (.ireturn, 1) := by decide +kernel
theorem d_M_isBond_0 : decode prog_14_method_7_code 0 = .ok (.iload_n 1, 1) := by decide +kernel
theorem d_M_isBond_1 : decode prog_14_method_7_code 1 = .ok (.iconst 0, 1) := by decide +kernel
theorem d_M_isBond_2 : decode prog_14_method_7_code 2 = .ok (.aload_n 0, 1) := by decide +kernel
theorem d_M_isBond_3 : decode prog_14_method_7_code 3 = .ok (.getfield 161, 3) := by decide +kernel
theorem d_M_isBond_6 : decode prog_14_method_7_code 6 = .ok (.iconst 1, 1) := by decide +kernel
theorem d_M_isBond_7 : decode prog_14_method_7_code 7 = .ok (.isub, 1) := by decide +kernel
theorem d_M_isBond_8 : decode prog_14_method_7_code 8 = .ok (.invokestatic 154, 3) := by decide +kernel
theorem d_M_isBond_11 : decode prog_14_method_7_code 11 = .ok (.ireturn, 1) := by decide +kernel
theorem d_M_isSet_0 : decode prog_14_method_8_code 0 = .ok (.iload_n 1, 1) := by decide +kernel
theorem d_M_isSet_1 : decode prog_14_method_8_code 1 = .ok (.iconst 0, 1) := by decide +kernel
theorem d_M_isSet_2 : decode prog_14_method_8_code 2 = .ok (.iconst 1, 1) := by decide +kernel
theorem d_M_isSet_3 : decode prog_14_method_8_code 3 = .ok (.aload_n 0, 1) := by decide +kernel
theorem d_M_isSet_4 : decode prog_14_method_8_code 4 = .ok (.getfield 161, 3) := by decide +kernel
theorem d_M_isSet_7 : decode prog_14_method_8_code 7 = .ok (.ishl, 1) := by decide +kernel
theorem d_M_isSet_8 : decode prog_14_method_8_code 8 = .ok (.iconst 1, 1) := by decide +kernel
theorem d_M_isSet_9 : decode prog_14_method_8_code 9 = .ok (.isub, 1) := by decide +kernel
theorem d_M_isSet_10 : decode prog_14_method_8_code 10 = .ok (.invokestatic 154, 3) := by decide +kernel
theorem d_M_isSet_13 : decode prog_14_method_8_code 13 = .ok (.ireturn, 1) := by decide +kernel
theorem d_M_has_0 : decode prog_14_method_9_code 0 = .ok (.iload_n 0, 1) := by decide +kernel
theorem d_M_has_1 : decode prog_14_method_9_code 1 = .ok (.iload_n 1, 1) := by decide +kernel
theorem d_M_has_2 : decode prog_14_method_9_code 2 = .ok (.ishr, 1) := by decide +kernel
theorem d_M_has_3 : decode prog_14_method_9_code 3 = .ok (.iconst 1, 1) := by decide +kernel
theorem d_M_has_4 : decode prog_14_method_9_code 4 = .ok (.iand, 1) := by decide +kernel
theorem d_M_has_5 : decode prog_14_method_9_code 5 = .ok (.iconst 1, 1) := by decide +kernel
theorem d_M_has_6 : decode prog_14_method_9_code 6 = .ok (.if_icmp .ne 7, 3) := by decide +kernel
theorem d_M_has_9 : decode prog_14_method_9_code 9 = .ok (.iconst 1, 1) := by decide +kernel
theorem d_M_has_10 : decode prog_14_method_9_code 10 = .ok (.goto 4, 3) := by decide +kernel
theorem d_M_has_13 : decode prog_14_method_9_code 13 = .ok (.iconst 0, 1) := by decide +kernel
theorem d_M_has_14 : decode prog_14_method_9_code 14 = .ok (.ireturn, 1) := by decide +kernel
theorem d_M_many_0 : decode prog_14_method_10_code 0 = .ok (.iload_n 0, 1) := by decide +kernel
theorem d_M_many_1 : decode prog_14_method_10_code 1 = .ok (.invokestatic 164, 3) := by decide +kernel
theorem d_M_many_4 : decode prog_14_method_10_code 4 = .ok (.ireturn, 1) := by decide +kernel
theorem d_M_tell_0 : decode prog_14_method_11_code 0 = .ok (.aload_n 0, 1) := by decide +kernel
theorem d_M_tell_1 : decode prog_14_method_11_code 1 = .ok (.getfield 90, 3) := by decide +kernel
theorem d_M_tell_4 : decode prog_14_method_11_code 4 = .ok (.aload_n 0, 1) := by decide +kernel
theorem d_M_tell_5 : decode prog_14_method_11_code 5 = .ok (.getfield 170, 3) := by decide +kernel
theorem d_M_tell_8 : decode prog_14_method_11_code 8 = .ok (.iload_n 1, 1) := by decide +kernel
theorem d_M_tell_9 : decode prog_14_method_11_code 9 = .ok (.iastore, 1) := by decide +kernel
theorem d_M_tell_10 : decode prog_14_method_11_code 10 = .ok (.aload_n 0, 1) := by decide +kernel
theorem d_M_tell_11 : decode prog_14_method_11_code 11 = .ok (.dup, 1) := by decide +kernel
theorem d_M_tell_12 : decode prog_14_method_11_code 12 = .ok (.getfield 170, 3) := by decide +kernel
theorem d_M_tell_15 : decode prog_14_method_11_code 15 = .ok (.iconst 1, 1) := by decide +kernel
theorem d_M_tell_16 : decode prog_14_method_11_code 16 = .ok (.iadd, 1) := by decide +kernel
theorem d_M_tell_17 : decode prog_14_method_11_code 17 = .ok (.putfield 170, 3) := by decide +kernel
theorem d_M_tell_20 : decode prog_14_method_11_code 20 = .ok (.return_, 1) := by decide +kernel
theorem d_M_person_0 : decode prog_14_method_12_code 0 = .ok (.aload_n 0, 1) := by decide +kernel
theorem d_M_person_1 : decode prog_14_method_12_code 1 = .ok (.iconst 0, 1) := by decide +kernel
theorem d_M_person_2 : decode prog_14_method_12_code 2 = .ok (.putfield 148, 3) := by decide +kernel
theorem d_M_person_5 : decode prog_14_method_12_code 5 = .ok (.iload_n 1, 1) := by decide +kernel
theorem d_M_person_6 : decode prog_14_method_12_code 6 = .ok (.iconst 0, 1) := by decide +kernel
theorem d_M_person_7 : decode prog_14_method_12_code 7 = .ok (.iconst 3, 1) := by decide +kernel
theorem d_M_person_8 : decode prog_14_method_12_code 8 = .ok (.invokestatic 154, 3) := by decide +kernel
theorem d_M_person_11 : decode prog_14_method_12_code 11 = .ok (.ifCond .eq 12, 3) := by decide +kernel
theorem d_M_person_14 : decode prog_14_method_12_code 14 = .ok (.aload_n 0, 1) := by decide +kernel
theorem d_M_person_15 : decode prog_14_method_12_code 15 = .ok (.getfield 151, 3) := by decide +kernel
theorem d_M_person_18 : decode prog_14_method_12_code 18 = .ok (.bipush 7, 2) := by decide +kernel
theorem d_M_person_20 : decode prog_14_method_12_code 20 = .ok (.if_icmp .ne 5, 3) := by decide +kernel
theorem d_M_person_23 : decode prog_14_method_12_code 23 = .ok (.iconst (-1), 1) := by decide +kernel
theorem d_M_person_24 : decode prog_14_method_12_code 24 = .ok (.ireturn, 1) := by decide +kernel
theorem d_M_person_25 : decode prog_14_method_12_code 25 = .ok (.aload_n 0, 1) := by decide +kernel
theorem d_M_person_26 : decode prog_14_method_12_code 26 = .ok (.getfield 9, 3) := by decide +kernel
theorem d_M_person_29 : decode prog_14_method_12_code 29 = .ok (.aload_n 0, 1) := by decide +kernel
theorem d_M_person_30 : decode prog_14_method_12_code 30 = .ok (.getfield 151, 3) := by decide +kernel
theorem d_M_person_33 : decode prog_14_method_12_code 33 = .ok (.iload_n 1, 1) := by decide +kernel
theorem d_M_person_34 : decode prog_14_method_12_code 34 = .ok (.iastore, 1) := by decide +kernel
theorem d_M_person_35 : decode prog_14_method_12_code 35 = .ok (.aload_n 0, 1) := by decide +kernel
theorem d_M_person_36 : decode prog_14_method_12_code 36 = .ok (.dup, 1) := by decide +kernel
theorem d_M_person_37 : decode prog_14_method_12_code 37 = .ok (.getfield 151, 3) := by decide +kernel
theorem d_M_person_40 : decode prog_14_method_12_code 40 = .ok (.iconst 1, 1) := by decide +kernel
theorem d_M_person_41 : decode prog_14_method_12_code 41 = .ok (.iadd, 1) := by decide +kernel
theorem d_M_person_42 : decode prog_14_method_12_code 42 = .ok (.putfield 151, 3) := by decide +kernel
theorem d_M_person_45 : decode prog_14_method_12_code 45 = .ok (.aload_n 0, 1) := by decide +kernel
theorem d_M_person_46 : decode prog_14_method_12_code 46 = .ok (.getfield 151, 3) := by decide +kernel
theorem d_M_person_49 : decode prog_14_method_12_code 49 = .ok (.iconst 1, 1) := by decide +kernel
theorem d_M_person_50 : decode prog_14_method_12_code 50 = .ok (.isub, 1) := by decide +kernel
theorem d_M_person_51 : decode prog_14_method_12_code 51 = .ok (.ireturn, 1) := by decide +kernel
theorem d_M_office_0 : decode prog_14_method_13_code 0 = .ok (.aload_n 0, 1) := by decide +kernel
theorem d_M_office_1 : decode prog_14_method_13_code 1 = .ok (.iconst 0, 1) := by decide +kernel
theorem d_M_office_2 : decode prog_14_method_13_code 2 = .ok (.putfield 148, 3) := by decide +kernel
theorem d_M_office_5 : decode prog_14_method_13_code 5 = .ok (.aload_n 0, 1) := by decide +kernel
theorem d_M_office_6 : decode prog_14_method_13_code 6 = .ok (.getfield 158, 3) := by decide +kernel
theorem d_M_office_9 : decode prog_14_method_13_code 9 = .ok (.iconst 4, 1) := by decide +kernel
theorem d_M_office_10 : decode prog_14_method_13_code 10 = .ok (.if_icmp .ne 5, 3) := by decide +kernel
theorem d_M_office_13 : decode prog_14_method_13_code 13 = .ok (.iconst (-1), 1) := by decide +kernel
theorem d_M_office_14 : decode prog_14_method_13_code 14 = .ok (.ireturn, 1) := by decide +kernel
theorem d_M_office_15 : decode prog_14_method_13_code 15 = .ok (.aload_n 0, 1) := by decide +kernel
theorem d_M_office_16 : decode prog_14_method_13_code 16 = .ok (.dup, 1) := by decide +kernel
theorem d_M_office_17 : decode prog_14_method_13_code 17 = .ok (.getfield 158, 3) := by decide +kernel
theorem d_M_office_20 : decode prog_14_method_13_code 20 = .ok (.iconst 1, 1) := by decide +kernel
theorem d_M_office_21 : decode prog_14_method_13_code 21 = .ok (.iadd, 1) := by decide +kernel
theorem d_M_office_22 : decode prog_14_method_13_code 22 = .ok (.putfield 158, 3) := by decide +kernel
theorem d_M_office_25 : decode prog_14_method_13_code 25 = .ok (.aload_n 0, 1) := by decide +kernel
theorem d_M_office_26 : decode prog_14_method_13_code 26 = .ok (.iconst 0, 1) := by decide +kernel
theorem d_M_office_27 : decode prog_14_method_13_code 27 = .ok (.putfield 173, 3) := by decide +kernel
theorem d_M_office_30 : decode prog_14_method_13_code 30 = .ok (.aload_n 0, 1) := by decide +kernel
theorem d_M_office_31 : decode prog_14_method_13_code 31 = .ok (.getfield 158, 3) := by decide +kernel
theorem d_M_office_34 : decode prog_14_method_13_code 34 = .ok (.iconst 1, 1) := by decide +kernel
theorem d_M_office_35 : decode prog_14_method_13_code 35 = .ok (.isub, 1) := by decide +kernel
theorem d_M_office_36 : decode prog_14_method_13_code 36 = .ok (.ireturn, 1) := by decide +kernel
theorem d_M_bond_0 : decode prog_14_method_14_code 0 = .ok (.aload_n 0, 1) := by decide +kernel
theorem d_M_bond_1 : decode prog_14_method_14_code 1 = .ok (.iconst 0, 1) := by decide +kernel
theorem d_M_bond_2 : decode prog_14_method_14_code 2 = .ok (.putfield 148, 3) := by decide +kernel
theorem d_M_bond_5 : decode prog_14_method_14_code 5 = .ok (.aload_n 0, 1) := by decide +kernel
theorem d_M_bond_6 : decode prog_14_method_14_code 6 = .ok (.iload_n 1, 1) := by decide +kernel
theorem d_M_bond_7 : decode prog_14_method_14_code 7 = .ok (.invokevirtual 177, 3) := by decide +kernel
theorem d_M_bond_10 : decode prog_14_method_14_code 10 = .ok (.ifCond .eq 52, 3) := by decide +kernel
theorem d_M_bond_13 : decode prog_14_method_14_code 13 = .ok (.aload_n 0, 1) := by decide +kernel
theorem d_M_bond_14 : decode prog_14_method_14_code 14 = .ok (.iload_n 2, 1) := by decide +kernel
theorem d_M_bond_15 : decode prog_14_method_14_code 15 = .ok (.invokevirtual 181, 3) := by decide +kernel
theorem d_M_bond_18 : decode prog_14_method_14_code 18 = .ok (.ifCond .eq 44, 3) := by decide +kernel
theorem d_M_bond_21 : decode prog_14_method_14_code 21 = .ok (.iload_n 3, 1) := by decide +kernel
theorem d_M_bond_22 : decode prog_14_method_14_code 22 = .ok (.iconst 0, 1) := by decide +kernel
theorem d_M_bond_23 : decode prog_14_method_14_code 23 = .ok (.bipush 99, 2) := by decide +kernel
theorem d_M_bond_25 : decode prog_14_method_14_code 25 = .ok (.invokestatic 154, 3) := by decide +kernel
theorem d_M_bond_28 : decode prog_14_method_14_code 28 = .ok (.ifCond .eq 34, 3) := by decide +kernel
theorem d_M_bond_31 : decode prog_14_method_14_code 31 = .ok (.iload 4, 2) := by decide +kernel
theorem d_M_bond_33 : decode prog_14_method_14_code 33 = .ok (.iconst 0, 1) := by decide +kernel
theorem d_M_bond_34 : decode prog_14_method_14_code 34 = .ok (.bipush 9, 2) := by decide +kernel
theorem d_M_bond_36 : decode prog_14_method_14_code 36 = .ok (.invokestatic 154, 3) := by decide +kernel
theorem d_M_bond_39 : decode prog_14_method_14_code 39 = .ok (.ifCond .eq 23, 3) := by decide +kernel
theorem d_M_bond_42 : decode prog_14_method_14_code 42 = .ok (.iload 5, 2) := by decide +kernel
theorem d_M_bond_44 : decode prog_14_method_14_code 44 = .ok (.iconst 0, 1) := by decide +kernel
theorem d_M_bond_45 : decode prog_14_method_14_code 45 = .ok (.bipush 9, 2) := by decide +kernel
theorem d_M_bond_47 : decode prog_14_method_14_code 47 = .ok (.invokestatic 154, 3) := by decide +kernel
theorem d_M_bond_50 : decode prog_14_method_14_code 50 = .ok (.ifCond .eq 12, 3) := by decide +kernel
theorem d_M_bond_53 : decode prog_14_method_14_code 53 = .ok (.aload_n 0, 1) := by decide +kernel
theorem d_M_bond_54 : decode prog_14_method_14_code 54 = .ok (.getfield 161, 3) := by decide +kernel
theorem d_M_bond_57 : decode prog_14_method_14_code 57 = .ok (.bipush 20, 2) := by decide +kernel
theorem d_M_bond_59 : decode prog_14_method_14_code 59 = .ok (.if_icmp .ne 5, 3) := by decide +kernel
theorem d_M_bond_62 : decode prog_14_method_14_code 62 = .ok (.iconst (-1), 1) := by decide +kernel
theorem d_M_bond_63 : decode prog_14_method_14_code 63 = .ok (.ireturn, 1) := by decide +kernel
theorem d_M_bond_64 : decode prog_14_method_14_code 64 = .ok (.iconst 0, 1) := by decide +kernel
theorem d_M_bond_65 : decode prog_14_method_14_code 65 = .ok (.istore 6, 2) := by decide +kernel
theorem d_M_bond_67 : decode prog_14_method_14_code 67 = .ok (.iconst 0, 1) := by decide +kernel
theorem d_M_bond_68 : decode prog_14_method_14_code 68 = .ok (.istore 7, 2) := by decide +kernel
theorem d_M_bond_70 : decode prog_14_method_14_code 70 = .ok (.iconst 0, 1) := by decide +kernel
theorem d_M_bond_71 : decode prog_14_method_14_code 71 = .ok (.istore 8, 2) := by decide +kernel
theorem d_M_bond_73 : decode prog_14_method_14_code 73 = .ok (.iload 8, 2) := by decide +kernel
theorem d_M_bond_75 : decode prog_14_method_14_code 75 = .ok (.aload_n 0, 1) := by decide +kernel
theorem d_M_bond_76 : decode prog_14_method_14_code 76 = .ok (.getfield 161, 3) := by decide +kernel
theorem d_M_bond_79 : decode prog_14_method_14_code 79 = .ok (.if_icmp .ge 51, 3) := by decide +kernel
theorem d_M_bond_82 : decode prog_14_method_14_code 82 = .ok (.iload 6, 2) := by decide +kernel
theorem d_M_bond_84 : decode prog_14_method_14_code 84 = .ok (.aload_n 0, 1) := by decide +kernel
theorem d_M_bond_85 : decode prog_14_method_14_code 85 = .ok (.getfield 13, 3) := by decide +kernel
theorem d_M_bond_88 : decode prog_14_method_14_code 88 = .ok (.iload 8, 2) := by decide +kernel
theorem d_M_bond_90 : decode prog_14_method_14_code 90 = .ok (.iaload, 1) := by decide +kernel
theorem d_M_bond_91 : decode prog_14_method_14_code 91 = .ok (.iload_n 1, 1) := by decide +kernel
theorem d_M_bond_92 : decode prog_14_method_14_code 92 = .ok (.if_icmp .ne 7, 3) := by decide +kernel
theorem d_M_bond_95 : decode prog_14_method_14_code 95 = .ok (.iconst 1, 1) := by decide +kernel
theorem d_M_bond_96 : decode prog_14_method_14_code 96 = .ok (.goto 4, 3) := by decide +kernel
theorem d_M_bond_99 : decode prog_14_method_14_code 99 = .ok (.iconst 0, 1) := by decide +kernel
theorem d_M_bond_100 : decode prog_14_method_14_code 100 = .ok (.iadd, 1) := by decide +kernel
theorem d_M_bond_101 : decode prog_14_method_14_code 101 = .ok (.istore 6, 2) := by decide +kernel
theorem d_M_bond_103 : decode prog_14_method_14_code 103 = .ok (.iload 7, 2) := by decide +kernel
theorem d_M_bond_105 : decode prog_14_method_14_code 105 = .ok (.aload_n 0, 1) := by decide +kernel
theorem d_M_bond_106 : decode prog_14_method_14_code 106 = .ok (.getfield 16, 3) := by decide +kernel
theorem d_M_bond_109 : decode prog_14_method_14_code 109 = .ok (.iload 8, 2) := by decide +kernel
theorem d_M_bond_111 : decode prog_14_method_14_code 111 = .ok (.iaload, 1) := by decide +kernel
theorem d_M_bond_112 : decode prog_14_method_14_code 112 = .ok (.iload_n 2, 1) := by decide +kernel
theorem d_M_bond_113 : decode prog_14_method_14_code 113 = .ok (.if_icmp .ne 7, 3) := by decide +kernel
theorem d_M_bond_116 : decode prog_14_method_14_code 116 = .ok (.iconst 1, 1) := by decide +kernel
theorem d_M_bond_117 : decode prog_14_method_14_code 117 = .ok (.goto 4, 3) := by decide +kernel
theorem d_M_bond_120 : decode prog_14_method_14_code 120 = .ok (.iconst 0, 1) := by decide +kernel
theorem d_M_bond_121 : decode prog_14_method_14_code 121 = .ok (.iadd, 1) := by decide +kernel
theorem d_M_bond_122 : decode prog_14_method_14_code 122 = .ok (.istore 7, 2) := by decide +kernel
theorem d_M_bond_124 : decode prog_14_method_14_code 124 = .ok (.iinc 8 1, 3) := by decide +kernel
theorem d_M_bond_127 : decode prog_14_method_14_code 127 = .ok (.goto (-54), 3) := by decide +kernel
theorem d_M_bond_130 : decode prog_14_method_14_code 130 = .ok (.iload 6, 2) := by decide +kernel
theorem d_M_bond_132 : decode prog_14_method_14_code 132 = .ok (.iconst 5, 1) := by decide +kernel
theorem d_M_bond_133 : decode prog_14_method_14_code 133 = .ok (.if_icmp .eq 10, 3) := by decide +kernel
theorem d_M_bond_136 : decode prog_14_method_14_code 136 = .ok (.iload 7, 2) := by decide +kernel
theorem d_M_bond_138 : decode prog_14_method_14_code 138 = .ok (.bipush 8, 2) := by decide +kernel
theorem d_M_bond_140 : decode prog_14_method_14_code 140 = .ok (.if_icmp .ne 5, 3) := by decide +kernel
theorem d_M_bond_143 : decode prog_14_method_14_code 143 = .ok (.iconst (-1), 1) := by decide +kernel
theorem d_M_bond_144 : decode prog_14_method_14_code 144 = .ok (.ireturn, 1) := by decide +kernel
theorem d_M_bond_145 : decode prog_14_method_14_code 145 = .ok (.aload_n 0, 1) := by decide +kernel
theorem d_M_bond_146 : decode prog_14_method_14_code 146 = .ok (.getfield 13, 3) := by decide +kernel
theorem d_M_bond_149 : decode prog_14_method_14_code 149 = .ok (.aload_n 0, 1) := by decide +kernel
theorem d_M_bond_150 : decode prog_14_method_14_code 150 = .ok (.getfield 161, 3) := by decide +kernel
theorem d_M_bond_153 : decode prog_14_method_14_code 153 = .ok (.iload_n 1, 1) := by decide +kernel
theorem d_M_bond_154 : decode prog_14_method_14_code 154 = .ok (.iastore, 1) := by decide +kernel
theorem d_M_bond_155 : decode prog_14_method_14_code 155 = .ok (.aload_n 0, 1) := by decide +kernel
theorem d_M_bond_156 : decode prog_14_method_14_code 156 = .ok (.getfield 16, 3) := by decide +kernel
theorem d_M_bond_159 : decode prog_14_method_14_code 159 = .ok (.aload_n 0, 1) := by decide +kernel
theorem d_M_bond_160 : decode prog_14_method_14_code 160 = .ok (.getfield 161, 3) := by decide +kernel
theorem d_M_bond_163 : decode prog_14_method_14_code 163 = .ok (.iload_n 2, 1) := by decide +kernel
theorem d_M_bond_164 : decode prog_14_method_14_code 164 = .ok (.iastore, 1) := by decide +kernel
theorem d_M_bond_165 : decode prog_14_method_14_code 165 = .ok (.aload_n 0, 1) := by decide +kernel
theorem d_M_bond_166 : decode prog_14_method_14_code 166 = .ok (.getfield 19, 3) := by decide +kernel
theorem d_M_bond_169 : decode prog_14_method_14_code 169 = .ok (.aload_n 0, 1) := by decide +kernel
theorem d_M_bond_170 : decode prog_14_method_14_code 170 = .ok (.getfield 161, 3) := by decide +kernel
theorem d_M_bond_173 : decode prog_14_method_14_code 173 = .ok (.iload_n 3, 1) := by decide +kernel
theorem d_M_bond_174 : decode prog_14_method_14_code 174 = .ok (.iastore, 1) := by decide +kernel
theorem d_M_bond_175 : decode prog_14_method_14_code 175 = .ok (.aload_n 0, 1) := by decide +kernel
theorem d_M_bond_176 : decode prog_14_method_14_code 176 = .ok (.getfield 22, 3) := by decide +kernel
theorem d_M_bond_179 : decode prog_14_method_14_code 179 = .ok (.aload_n 0, 1) := by decide +kernel
theorem d_M_bond_180 : decode prog_14_method_14_code 180 = .ok (.getfield 161, 3) := by decide +kernel
theorem d_M_bond_183 : decode prog_14_method_14_code 183 = .ok (.iload 4, 2) := by decide +kernel
theorem d_M_bond_185 : decode prog_14_method_14_code 185 = .ok (.iastore, 1) := by decide +kernel
theorem d_M_bond_186 : decode prog_14_method_14_code 186 = .ok (.aload_n 0, 1) := by decide +kernel
theorem d_M_bond_187 : decode prog_14_method_14_code 187 = .ok (.getfield 25, 3) := by decide +kernel
theorem d_M_bond_190 : decode prog_14_method_14_code 190 = .ok (.aload_n 0, 1) := by decide +kernel
theorem d_M_bond_191 : decode prog_14_method_14_code 191 = .ok (.getfield 161, 3) := by decide +kernel
theorem d_M_bond_194 : decode prog_14_method_14_code 194 = .ok (.iload 5, 2) := by decide +kernel
theorem d_M_bond_196 : decode prog_14_method_14_code 196 = .ok (.iastore, 1) := by decide +kernel
theorem d_M_bond_197 : decode prog_14_method_14_code 197 = .ok (.aload_n 0, 1) := by decide +kernel
theorem d_M_bond_198 : decode prog_14_method_14_code 198 = .ok (.dup, 1) := by decide +kernel
theorem d_M_bond_199 : decode prog_14_method_14_code 199 = .ok (.getfield 161, 3) := by decide +kernel
theorem d_M_bond_202 : decode prog_14_method_14_code 202 = .ok (.iconst 1, 1) := by decide +kernel
theorem d_M_bond_203 : decode prog_14_method_14_code 203 = .ok (.iadd, 1) := by decide +kernel
theorem d_M_bond_204 : decode prog_14_method_14_code 204 = .ok (.putfield 161, 3) := by decide +kernel
theorem d_M_bond_207 : decode prog_14_method_14_code 207 = .ok (.aload_n 0, 1) := by decide +kernel
theorem d_M_bond_208 : decode prog_14_method_14_code 208 = .ok (.iconst 0, 1) := by decide +kernel
theorem d_M_bond_209 : decode prog_14_method_14_code 209 = .ok (.putfield 173, 3) := by decide +kernel
theorem d_M_bond_212 : decode prog_14_method_14_code 212 = .ok (.aload_n 0, 1) := by decide +kernel
theorem d_M_bond_213 : decode prog_14_method_14_code 213 = .ok (.getfield 161, 3) := by decide +kernel
theorem d_M_bond_216 : decode prog_14_method_14_code 216 = .ok (.iconst 1, 1) := by decide +kernel
theorem d_M_bond_217 : decode prog_14_method_14_code 217 = .ok (.isub, 1) := by decide +kernel
theorem d_M_bond_218 : decode prog_14_method_14_code 218 = .ok (.ireturn, 1) := by decide +kernel
theorem d_M_placeOf_0 : decode prog_14_method_15_code 0 = .ok (.aload_n 0, 1) := by decide +kernel
theorem d_M_placeOf_1 : decode prog_14_method_15_code 1 = .ok (.getfield 13, 3) := by decide +kernel
theorem d_M_placeOf_4 : decode prog_14_method_15_code 4 = .ok (.iload_n 1, 1) := by decide +kernel
theorem d_M_placeOf_5 : decode prog_14_method_15_code 5 = .ok (.iaload, 1) := by decide +kernel
theorem d_M_placeOf_6 : decode prog_14_method_15_code 6 = .ok (.istore_n 2, 1) := by decide +kernel
theorem d_M_placeOf_7 : decode prog_14_method_15_code 7 = .ok (.iconst 0, 1) := by decide +kernel
theorem d_M_placeOf_8 : decode prog_14_method_15_code 8 = .ok (.istore_n 3, 1) := by decide +kernel
theorem d_M_placeOf_9 : decode prog_14_method_15_code 9 = .ok (.iload_n 3, 1) := by decide +kernel
theorem d_M_placeOf_10 : decode prog_14_method_15_code 10 = .ok (.aload_n 0, 1) := by decide +kernel
theorem d_M_placeOf_11 : decode prog_14_method_15_code 11 = .ok (.getfield 31, 3) := by decide +kernel
theorem d_M_placeOf_14 : decode prog_14_method_15_code 14 = .ok (.iload_n 2, 1) := by decide +kernel
theorem d_M_placeOf_15 : decode prog_14_method_15_code 15 = .ok (.iaload, 1) := by decide +kernel
theorem d_M_placeOf_16 : decode prog_14_method_15_code 16 = .ok (.if_icmp .ge 25, 3) := by decide +kernel
theorem d_M_placeOf_19 : decode prog_14_method_15_code 19 = .ok (.aload_n 0, 1) := by decide +kernel
theorem d_M_placeOf_20 : decode prog_14_method_15_code 20 = .ok (.getfield 28, 3) := by decide +kernel
theorem d_M_placeOf_23 : decode prog_14_method_15_code 23 = .ok (.iconst 5, 1) := by decide +kernel
theorem d_M_placeOf_24 : decode prog_14_method_15_code 24 = .ok (.iload_n 2, 1) := by decide +kernel
theorem d_M_placeOf_25 : decode prog_14_method_15_code 25 = .ok (.imul, 1) := by decide +kernel
theorem d_M_placeOf_26 : decode prog_14_method_15_code 26 = .ok (.iload_n 3, 1) := by decide +kernel
theorem d_M_placeOf_27 : decode prog_14_method_15_code 27 = .ok (.iadd, 1) := by decide +kernel
theorem d_M_placeOf_28 : decode prog_14_method_15_code 28 = .ok (.iaload, 1) := by decide +kernel
theorem d_M_placeOf_29 : decode prog_14_method_15_code 29 = .ok (.iload_n 1, 1) := by decide +kernel
theorem d_M_placeOf_30 : decode prog_14_method_15_code 30 = .ok (.if_icmp .ne 5, 3) := by decide +kernel
theorem d_M_placeOf_33 : decode prog_14_method_15_code 33 = .ok (.iload_n 3, 1) := by decide +kernel
theorem d_M_placeOf_34 : decode prog_14_method_15_code 34 = .ok (.ireturn, 1) := by decide +kernel
theorem d_M_placeOf_35 : decode prog_14_method_15_code 35 = .ok (.iinc 3 1, 3) := by decide +kernel
theorem d_M_placeOf_38 : decode prog_14_method_15_code 38 = .ok (.goto (-29), 3) := by decide +kernel
theorem d_M_placeOf_41 : decode prog_14_method_15_code 41 = .ok (.iconst (-1), 1) := by decide +kernel
theorem d_M_placeOf_42 : decode prog_14_method_15_code 42 = .ok (.ireturn, 1) := by decide +kernel
theorem d_M_list_0 : decode prog_14_method_16_code 0 = .ok (.aload_n 0, 1) := by decide +kernel
theorem d_M_list_1 : decode prog_14_method_16_code 1 = .ok (.iconst 0, 1) := by decide +kernel
theorem d_M_list_2 : decode prog_14_method_16_code 2 = .ok (.putfield 148, 3) := by decide +kernel
theorem d_M_list_5 : decode prog_14_method_16_code 5 = .ok (.aload_n 0, 1) := by decide +kernel
theorem d_M_list_6 : decode prog_14_method_16_code 6 = .ok (.iload_n 1, 1) := by decide +kernel
theorem d_M_list_7 : decode prog_14_method_16_code 7 = .ok (.invokevirtual 184, 3) := by decide +kernel
theorem d_M_list_10 : decode prog_14_method_16_code 10 = .ok (.ifCond .eq 12, 3) := by decide +kernel
theorem d_M_list_13 : decode prog_14_method_16_code 13 = .ok (.aload_n 0, 1) := by decide +kernel
theorem d_M_list_14 : decode prog_14_method_16_code 14 = .ok (.iload_n 1, 1) := by decide +kernel
theorem d_M_list_15 : decode prog_14_method_16_code 15 = .ok (.invokevirtual 187, 3) := by decide +kernel
theorem d_M_list_18 : decode prog_14_method_16_code 18 = .ok (.iconst (-1), 1) := by decide +kernel
theorem d_M_list_19 : decode prog_14_method_16_code 19 = .ok (.if_icmp .eq 5, 3) := by decide +kernel
theorem d_M_list_22 : decode prog_14_method_16_code 22 = .ok (.iconst (-1), 1) := by decide +kernel
theorem d_M_list_23 : decode prog_14_method_16_code 23 = .ok (.ireturn, 1) := by decide +kernel
theorem d_M_list_24 : decode prog_14_method_16_code 24 = .ok (.aload_n 0, 1) := by decide +kernel
theorem d_M_list_25 : decode prog_14_method_16_code 25 = .ok (.getfield 13, 3) := by decide +kernel
theorem d_M_list_28 : decode prog_14_method_16_code 28 = .ok (.iload_n 1, 1) := by decide +kernel
theorem d_M_list_29 : decode prog_14_method_16_code 29 = .ok (.iaload, 1) := by decide +kernel
theorem d_M_list_30 : decode prog_14_method_16_code 30 = .ok (.istore_n 2, 1) := by decide +kernel
theorem d_M_list_31 : decode prog_14_method_16_code 31 = .ok (.aload_n 0, 1) := by decide +kernel
theorem d_M_list_32 : decode prog_14_method_16_code 32 = .ok (.getfield 28, 3) := by decide +kernel
theorem d_M_list_35 : decode prog_14_method_16_code 35 = .ok (.iconst 5, 1) := by decide +kernel
theorem d_M_list_36 : decode prog_14_method_16_code 36 = .ok (.iload_n 2, 1) := by decide +kernel
theorem d_M_list_37 : decode prog_14_method_16_code 37 = .ok (.imul, 1) := by decide +kernel
theorem d_M_list_38 : decode prog_14_method_16_code 38 = .ok (.aload_n 0, 1) := by decide +kernel
theorem d_M_list_39 : decode prog_14_method_16_code 39 = .ok (.getfield 31, 3) := by decide +kernel
theorem d_M_list_42 : decode prog_14_method_16_code 42 = .ok (.iload_n 2, 1) := by decide +kernel
theorem d_M_list_43 : decode prog_14_method_16_code 43 = .ok (.iaload, 1) := by decide +kernel
theorem d_M_list_44 : decode prog_14_method_16_code 44 = .ok (.iadd, 1) := by decide +kernel
theorem d_M_list_45 : decode prog_14_method_16_code 45 = .ok (.iload_n 1, 1) := by decide +kernel
theorem d_M_list_46 : decode prog_14_method_16_code 46 = .ok (.iastore, 1) := by decide +kernel
theorem d_M_list_47 : decode prog_14_method_16_code 47 = .ok (.aload_n 0, 1) := by decide +kernel
theorem d_M_list_48 : decode prog_14_method_16_code 48 = .ok (.getfield 31, 3) := by decide +kernel
theorem d_M_list_51 : decode prog_14_method_16_code 51 = .ok (.iload_n 2, 1) := by decide +kernel
theorem d_M_list_52 : decode prog_14_method_16_code 52 = .ok (.dup2, 1) := by decide +kernel
theorem d_M_list_53 : decode prog_14_method_16_code 53 = .ok (.iaload, 1) := by decide +kernel
theorem d_M_list_54 : decode prog_14_method_16_code 54 = .ok (.iconst 1, 1) := by decide +kernel
theorem d_M_list_55 : decode prog_14_method_16_code 55 = .ok (.iadd, 1) := by decide +kernel
theorem d_M_list_56 : decode prog_14_method_16_code 56 = .ok (.iastore, 1) := by decide +kernel
theorem d_M_list_57 : decode prog_14_method_16_code 57 = .ok (.aload_n 0, 1) := by decide +kernel
theorem d_M_list_58 : decode prog_14_method_16_code 58 = .ok (.getfield 31, 3) := by decide +kernel
theorem d_M_list_61 : decode prog_14_method_16_code 61 = .ok (.iload_n 2, 1) := by decide +kernel
theorem d_M_list_62 : decode prog_14_method_16_code 62 = .ok (.iaload, 1) := by decide +kernel
theorem d_M_list_63 : decode prog_14_method_16_code 63 = .ok (.ireturn, 1) := by decide +kernel
theorem d_M_clear_0 : decode prog_14_method_17_code 0 = .ok (.aload_n 0, 1) := by decide +kernel
theorem d_M_clear_1 : decode prog_14_method_17_code 1 = .ok (.iconst 0, 1) := by decide +kernel
theorem d_M_clear_2 : decode prog_14_method_17_code 2 = .ok (.putfield 148, 3) := by decide +kernel
theorem d_M_clear_5 : decode prog_14_method_17_code 5 = .ok (.aload_n 0, 1) := by decide +kernel
theorem d_M_clear_6 : decode prog_14_method_17_code 6 = .ok (.iload_n 1, 1) := by decide +kernel
theorem d_M_clear_7 : decode prog_14_method_17_code 7 = .ok (.invokevirtual 177, 3) := by decide +kernel
theorem d_M_clear_10 : decode prog_14_method_17_code 10 = .ok (.ifCond .ne 5, 3) := by decide +kernel
theorem d_M_clear_13 : decode prog_14_method_17_code 13 = .ok (.iconst (-1), 1) := by decide +kernel
theorem d_M_clear_14 : decode prog_14_method_17_code 14 = .ok (.ireturn, 1) := by decide +kernel
theorem d_M_clear_15 : decode prog_14_method_17_code 15 = .ok (.aload_n 0, 1) := by decide +kernel
theorem d_M_clear_16 : decode prog_14_method_17_code 16 = .ok (.getfield 31, 3) := by decide +kernel
theorem d_M_clear_19 : decode prog_14_method_17_code 19 = .ok (.iload_n 1, 1) := by decide +kernel
theorem d_M_clear_20 : decode prog_14_method_17_code 20 = .ok (.iaload, 1) := by decide +kernel
theorem d_M_clear_21 : decode prog_14_method_17_code 21 = .ok (.istore_n 2, 1) := by decide +kernel
theorem d_M_clear_22 : decode prog_14_method_17_code 22 = .ok (.aload_n 0, 1) := by decide +kernel
theorem d_M_clear_23 : decode prog_14_method_17_code 23 = .ok (.getfield 31, 3) := by decide +kernel
theorem d_M_clear_26 : decode prog_14_method_17_code 26 = .ok (.iload_n 1, 1) := by decide +kernel
theorem d_M_clear_27 : decode prog_14_method_17_code 27 = .ok (.iconst 0, 1) := by decide +kernel
theorem d_M_clear_28 : decode prog_14_method_17_code 28 = .ok (.iastore, 1) := by decide +kernel
theorem d_M_clear_29 : decode prog_14_method_17_code 29 = .ok (.iload_n 2, 1) := by decide +kernel
theorem d_M_clear_30 : decode prog_14_method_17_code 30 = .ok (.ireturn, 1) := by decide +kernel
theorem d_M_coupleOf_0 : decode prog_14_method_18_code 0 = .ok (.iconst 0, 1) := by decide +kernel
theorem d_M_coupleOf_1 : decode prog_14_method_18_code 1 = .ok (.istore_n 2, 1) := by decide +kernel
theorem d_M_coupleOf_2 : decode prog_14_method_18_code 2 = .ok (.iload_n 2, 1) := by decide +kernel
theorem d_M_coupleOf_3 : decode prog_14_method_18_code 3 = .ok (.aload_n 0, 1) := by decide +kernel
theorem d_M_coupleOf_4 : decode prog_14_method_18_code 4 = .ok (.getfield 190, 3) := by decide +kernel
theorem d_M_coupleOf_7 : decode prog_14_method_18_code 7 = .ok (.if_icmp .ge 31, 3) := by decide +kernel
theorem d_M_coupleOf_10 : decode prog_14_method_18_code 10 = .ok (.aload_n 0, 1) := by decide +kernel
theorem d_M_coupleOf_11 : decode prog_14_method_18_code 11 = .ok (.getfield 34, 3) := by decide +kernel
theorem d_M_coupleOf_14 : decode prog_14_method_18_code 14 = .ok (.iload_n 2, 1) := by decide +kernel
theorem d_M_coupleOf_15 : decode prog_14_method_18_code 15 = .ok (.iaload, 1) := by decide +kernel
theorem d_M_coupleOf_16 : decode prog_14_method_18_code 16 = .ok (.iload_n 1, 1) := by decide +kernel
theorem d_M_coupleOf_17 : decode prog_14_method_18_code 17 = .ok (.if_icmp .eq 13, 3) := by decide +kernel
theorem d_M_coupleOf_20 : decode prog_14_method_18_code 20 = .ok (.aload_n 0, 1) := by decide +kernel
theorem d_M_coupleOf_21 : decode prog_14_method_18_code 21 = .ok (.getfield 37, 3) := by decide +kernel
theorem d_M_coupleOf_24 : decode prog_14_method_18_code 24 = .ok (.iload_n 2, 1) := by decide +kernel
theorem d_M_coupleOf_25 : decode prog_14_method_18_code 25 = .ok (.iaload, 1) := by decide +kernel
theorem d_M_coupleOf_26 : decode prog_14_method_18_code 26 = .ok (.iload_n 1, 1) := by decide +kernel
theorem d_M_coupleOf_27 : decode prog_14_method_18_code 27 = .ok (.if_icmp .ne 5, 3) := by decide +kernel
theorem d_M_coupleOf_30 : decode prog_14_method_18_code 30 = .ok (.iload_n 2, 1) := by decide +kernel
theorem d_M_coupleOf_31 : decode prog_14_method_18_code 31 = .ok (.ireturn, 1) := by decide +kernel
theorem d_M_coupleOf_32 : decode prog_14_method_18_code 32 = .ok (.iinc 2 1, 3) := by decide +kernel
theorem d_M_coupleOf_35 : decode prog_14_method_18_code 35 = .ok (.goto (-33), 3) := by decide +kernel
theorem d_M_coupleOf_38 : decode prog_14_method_18_code 38 = .ok (.iconst (-1), 1) := by decide +kernel
theorem d_M_coupleOf_39 : decode prog_14_method_18_code 39 = .ok (.ireturn, 1) := by decide +kernel
theorem d_M_couple_0 : decode prog_14_method_19_code 0 = .ok (.aload_n 0, 1) := by decide +kernel
theorem d_M_couple_1 : decode prog_14_method_19_code 1 = .ok (.iconst 0, 1) := by decide +kernel
theorem d_M_couple_2 : decode prog_14_method_19_code 2 = .ok (.putfield 148, 3) := by decide +kernel
theorem d_M_couple_5 : decode prog_14_method_19_code 5 = .ok (.aload_n 0, 1) := by decide +kernel
theorem d_M_couple_6 : decode prog_14_method_19_code 6 = .ok (.iload_n 1, 1) := by decide +kernel
theorem d_M_couple_7 : decode prog_14_method_19_code 7 = .ok (.invokevirtual 177, 3) := by decide +kernel
theorem d_M_couple_10 : decode prog_14_method_19_code 10 = .ok (.ifCond .eq 42, 3) := by decide +kernel
theorem d_M_couple_13 : decode prog_14_method_19_code 13 = .ok (.aload_n 0, 1) := by decide +kernel
theorem d_M_couple_14 : decode prog_14_method_19_code 14 = .ok (.iload_n 2, 1) := by decide +kernel
theorem d_M_couple_15 : decode prog_14_method_19_code 15 = .ok (.invokevirtual 177, 3) := by decide +kernel
theorem d_M_couple_18 : decode prog_14_method_19_code 18 = .ok (.ifCond .eq 34, 3) := by decide +kernel
theorem d_M_couple_21 : decode prog_14_method_19_code 21 = .ok (.iload_n 1, 1) := by decide +kernel
theorem d_M_couple_22 : decode prog_14_method_19_code 22 = .ok (.iload_n 2, 1) := by decide +kernel
theorem d_M_couple_23 : decode prog_14_method_19_code 23 = .ok (.if_icmp .eq 29, 3) := by decide +kernel
theorem d_M_couple_26 : decode prog_14_method_19_code 26 = .ok (.aload_n 0, 1) := by decide +kernel
theorem d_M_couple_27 : decode prog_14_method_19_code 27 = .ok (.iload_n 1, 1) := by decide +kernel
theorem d_M_couple_28 : decode prog_14_method_19_code 28 = .ok (.invokevirtual 193, 3) := by decide +kernel
theorem d_M_couple_31 : decode prog_14_method_19_code 31 = .ok (.iconst (-1), 1) := by decide +kernel
theorem d_M_couple_32 : decode prog_14_method_19_code 32 = .ok (.if_icmp .ne 20, 3) := by decide +kernel
theorem d_M_couple_35 : decode prog_14_method_19_code 35 = .ok (.aload_n 0, 1) := by decide +kernel
theorem d_M_couple_36 : decode prog_14_method_19_code 36 = .ok (.iload_n 2, 1) := by decide +kernel
theorem d_M_couple_37 : decode prog_14_method_19_code 37 = .ok (.invokevirtual 193, 3) := by decide +kernel
theorem d_M_couple_40 : decode prog_14_method_19_code 40 = .ok (.iconst (-1), 1) := by decide +kernel
theorem d_M_couple_41 : decode prog_14_method_19_code 41 = .ok (.if_icmp .ne 11, 3) := by decide +kernel
theorem d_M_couple_44 : decode prog_14_method_19_code 44 = .ok (.aload_n 0, 1) := by decide +kernel
theorem d_M_couple_45 : decode prog_14_method_19_code 45 = .ok (.getfield 190, 3) := by decide +kernel
theorem d_M_couple_48 : decode prog_14_method_19_code 48 = .ok (.iconst 2, 1) := by decide +kernel
theorem d_M_couple_49 : decode prog_14_method_19_code 49 = .ok (.if_icmp .ne 5, 3) := by decide +kernel
theorem d_M_couple_52 : decode prog_14_method_19_code 52 = .ok (.iconst (-1), 1) := by decide +kernel
theorem d_M_couple_53 : decode prog_14_method_19_code 53 = .ok (.ireturn, 1) := by decide +kernel
theorem d_M_couple_54 : decode prog_14_method_19_code 54 = .ok (.aload_n 0, 1) := by decide +kernel
theorem d_M_couple_55 : decode prog_14_method_19_code 55 = .ok (.getfield 34, 3) := by decide +kernel
theorem d_M_couple_58 : decode prog_14_method_19_code 58 = .ok (.aload_n 0, 1) := by decide +kernel
theorem d_M_couple_59 : decode prog_14_method_19_code 59 = .ok (.getfield 190, 3) := by decide +kernel
theorem d_M_couple_62 : decode prog_14_method_19_code 62 = .ok (.iload_n 1, 1) := by decide +kernel
theorem d_M_couple_63 : decode prog_14_method_19_code 63 = .ok (.iastore, 1) := by decide +kernel
theorem d_M_couple_64 : decode prog_14_method_19_code 64 = .ok (.aload_n 0, 1) := by decide +kernel
theorem d_M_couple_65 : decode prog_14_method_19_code 65 = .ok (.getfield 37, 3) := by decide +kernel
theorem d_M_couple_68 : decode prog_14_method_19_code 68 = .ok (.aload_n 0, 1) := by decide +kernel
theorem d_M_couple_69 : decode prog_14_method_19_code 69 = .ok (.getfield 190, 3) := by decide +kernel
theorem d_M_couple_72 : decode prog_14_method_19_code 72 = .ok (.iload_n 2, 1) := by decide +kernel
theorem d_M_couple_73 : decode prog_14_method_19_code 73 = .ok (.iastore, 1) := by decide +kernel
theorem d_M_couple_74 : decode prog_14_method_19_code 74 = .ok (.aload_n 0, 1) := by decide +kernel
theorem d_M_couple_75 : decode prog_14_method_19_code 75 = .ok (.dup, 1) := by decide +kernel
theorem d_M_couple_76 : decode prog_14_method_19_code 76 = .ok (.getfield 190, 3) := by decide +kernel
theorem d_M_couple_79 : decode prog_14_method_19_code 79 = .ok (.iconst 1, 1) := by decide +kernel
theorem d_M_couple_80 : decode prog_14_method_19_code 80 = .ok (.iadd, 1) := by decide +kernel
theorem d_M_couple_81 : decode prog_14_method_19_code 81 = .ok (.putfield 190, 3) := by decide +kernel
theorem d_M_couple_84 : decode prog_14_method_19_code 84 = .ok (.aload_n 0, 1) := by decide +kernel
theorem d_M_couple_85 : decode prog_14_method_19_code 85 = .ok (.getfield 190, 3) := by decide +kernel
theorem d_M_couple_88 : decode prog_14_method_19_code 88 = .ok (.iconst 1, 1) := by decide +kernel
theorem d_M_couple_89 : decode prog_14_method_19_code 89 = .ok (.isub, 1) := by decide +kernel
theorem d_M_couple_90 : decode prog_14_method_19_code 90 = .ok (.ireturn, 1) := by decide +kernel
theorem d_M_isOf_0 : decode prog_14_method_20_code 0 = .ok (.iload_n 1, 1) := by decide +kernel
theorem d_M_isOf_1 : decode prog_14_method_20_code 1 = .ok (.iconst (-1), 1) := by decide +kernel
theorem d_M_isOf_2 : decode prog_14_method_20_code 2 = .ok (.if_icmp .eq 21, 3) := by decide +kernel
theorem d_M_isOf_5 : decode prog_14_method_20_code 5 = .ok (.aload_n 0, 1) := by decide +kernel
theorem d_M_isOf_6 : decode prog_14_method_20_code 6 = .ok (.iload_n 1, 1) := by decide +kernel
theorem d_M_isOf_7 : decode prog_14_method_20_code 7 = .ok (.invokevirtual 184, 3) := by decide +kernel
theorem d_M_isOf_10 : decode prog_14_method_20_code 10 = .ok (.ifCond .eq 17, 3) := by decide +kernel
theorem d_M_isOf_13 : decode prog_14_method_20_code 13 = .ok (.aload_n 0, 1) := by decide +kernel
theorem d_M_isOf_14 : decode prog_14_method_20_code 14 = .ok (.getfield 13, 3) := by decide +kernel
theorem d_M_isOf_17 : decode prog_14_method_20_code 17 = .ok (.iload_n 1, 1) := by decide +kernel
theorem d_M_isOf_18 : decode prog_14_method_20_code 18 = .ok (.iaload, 1) := by decide +kernel
theorem d_M_isOf_19 : decode prog_14_method_20_code 19 = .ok (.iload_n 2, 1) := by decide +kernel
theorem d_M_isOf_20 : decode prog_14_method_20_code 20 = .ok (.if_icmp .ne 7, 3) := by decide +kernel
theorem d_M_isOf_23 : decode prog_14_method_20_code 23 = .ok (.iconst 1, 1) := by decide +kernel
theorem d_M_isOf_24 : decode prog_14_method_20_code 24 = .ok (.goto 4, 3) := by decide +kernel
theorem d_M_isOf_27 : decode prog_14_method_20_code 27 = .ok (.iconst 0, 1) := by decide +kernel
theorem d_M_isOf_28 : decode prog_14_method_20_code 28 = .ok (.ireturn, 1) := by decide +kernel
theorem d_M_pair_0 : decode prog_14_method_21_code 0 = .ok (.aload_n 0, 1) := by decide +kernel
theorem d_M_pair_1 : decode prog_14_method_21_code 1 = .ok (.iconst 0, 1) := by decide +kernel
theorem d_M_pair_2 : decode prog_14_method_21_code 2 = .ok (.putfield 148, 3) := by decide +kernel
theorem d_M_pair_5 : decode prog_14_method_21_code 5 = .ok (.iload_n 1, 1) := by decide +kernel
theorem d_M_pair_6 : decode prog_14_method_21_code 6 = .ok (.iconst 0, 1) := by decide +kernel
theorem d_M_pair_7 : decode prog_14_method_21_code 7 = .ok (.aload_n 0, 1) := by decide +kernel
theorem d_M_pair_8 : decode prog_14_method_21_code 8 = .ok (.getfield 190, 3) := by decide +kernel
theorem d_M_pair_11 : decode prog_14_method_21_code 11 = .ok (.iconst 1, 1) := by decide +kernel
theorem d_M_pair_12 : decode prog_14_method_21_code 12 = .ok (.isub, 1) := by decide +kernel
theorem d_M_pair_13 : decode prog_14_method_21_code 13 = .ok (.invokestatic 154, 3) := by decide +kernel
theorem d_M_pair_16 : decode prog_14_method_21_code 16 = .ok (.ifCond .eq 52, 3) := by decide +kernel
theorem d_M_pair_19 : decode prog_14_method_21_code 19 = .ok (.aload_n 0, 1) := by decide +kernel
theorem d_M_pair_20 : decode prog_14_method_21_code 20 = .ok (.iload_n 2, 1) := by decide +kernel
theorem d_M_pair_21 : decode prog_14_method_21_code 21 = .ok (.aload_n 0, 1) := by decide +kernel
theorem d_M_pair_22 : decode prog_14_method_21_code 22 = .ok (.getfield 34, 3) := by decide +kernel
theorem d_M_pair_25 : decode prog_14_method_21_code 25 = .ok (.iload_n 1, 1) := by decide +kernel
theorem d_M_pair_26 : decode prog_14_method_21_code 26 = .ok (.iaload, 1) := by decide +kernel
theorem d_M_pair_27 : decode prog_14_method_21_code 27 = .ok (.invokevirtual 196, 3) := by decide +kernel
theorem d_M_pair_30 : decode prog_14_method_21_code 30 = .ok (.ifCond .eq 38, 3) := by decide +kernel
theorem d_M_pair_33 : decode prog_14_method_21_code 33 = .ok (.aload_n 0, 1) := by decide +kernel
theorem d_M_pair_34 : decode prog_14_method_21_code 34 = .ok (.iload_n 3, 1) := by decide +kernel
theorem d_M_pair_35 : decode prog_14_method_21_code 35 = .ok (.aload_n 0, 1) := by decide +kernel
theorem d_M_pair_36 : decode prog_14_method_21_code 36 = .ok (.getfield 37, 3) := by decide +kernel
theorem d_M_pair_39 : decode prog_14_method_21_code 39 = .ok (.iload_n 1, 1) := by decide +kernel
theorem d_M_pair_40 : decode prog_14_method_21_code 40 = .ok (.iaload, 1) := by decide +kernel
theorem d_M_pair_41 : decode prog_14_method_21_code 41 = .ok (.invokevirtual 196, 3) := by decide +kernel
theorem d_M_pair_44 : decode prog_14_method_21_code 44 = .ok (.ifCond .eq 24, 3) := by decide +kernel
theorem d_M_pair_47 : decode prog_14_method_21_code 47 = .ok (.iload_n 2, 1) := by decide +kernel
theorem d_M_pair_48 : decode prog_14_method_21_code 48 = .ok (.iconst (-1), 1) := by decide +kernel
theorem d_M_pair_49 : decode prog_14_method_21_code 49 = .ok (.if_icmp .ne 8, 3) := by decide +kernel
theorem d_M_pair_52 : decode prog_14_method_21_code 52 = .ok (.iload_n 3, 1) := by decide +kernel
theorem d_M_pair_53 : decode prog_14_method_21_code 53 = .ok (.iconst (-1), 1) := by decide +kernel
theorem d_M_pair_54 : decode prog_14_method_21_code 54 = .ok (.if_icmp .eq 14, 3) := by decide +kernel
theorem d_M_pair_57 : decode prog_14_method_21_code 57 = .ok (.aload_n 0, 1) := by decide +kernel
theorem d_M_pair_58 : decode prog_14_method_21_code 58 = .ok (.getfield 46, 3) := by decide +kernel
theorem d_M_pair_61 : decode prog_14_method_21_code 61 = .ok (.iload_n 1, 1) := by decide +kernel
theorem d_M_pair_62 : decode prog_14_method_21_code 62 = .ok (.iaload, 1) := by decide +kernel
theorem d_M_pair_63 : decode prog_14_method_21_code 63 = .ok (.bipush 8, 2) := by decide +kernel
theorem d_M_pair_65 : decode prog_14_method_21_code 65 = .ok (.if_icmp .ne 5, 3) := by decide +kernel
theorem d_M_pair_68 : decode prog_14_method_21_code 68 = .ok (.iconst (-1), 1) := by decide +kernel
theorem d_M_pair_69 : decode prog_14_method_21_code 69 = .ok (.ireturn, 1) := by decide +kernel
theorem d_M_pair_70 : decode prog_14_method_21_code 70 = .ok (.iconst 0, 1) := by decide +kernel
theorem d_M_pair_71 : decode prog_14_method_21_code 71 = .ok (.istore 4, 2) := by decide +kernel
theorem d_M_pair_73 : decode prog_14_method_21_code 73 = .ok (.iload 4, 2) := by decide +kernel
theorem d_M_pair_75 : decode prog_14_method_21_code 75 = .ok (.aload_n 0, 1) := by decide +kernel
theorem d_M_pair_76 : decode prog_14_method_21_code 76 = .ok (.getfield 46, 3) := by decide +kernel
theorem d_M_pair_79 : decode prog_14_method_21_code 79 = .ok (.iload_n 1, 1) := by decide +kernel
theorem d_M_pair_80 : decode prog_14_method_21_code 80 = .ok (.iaload, 1) := by decide +kernel
theorem d_M_pair_81 : decode prog_14_method_21_code 81 = .ok (.if_icmp .ge 43, 3) := by decide +kernel
theorem d_M_pair_84 : decode prog_14_method_21_code 84 = .ok (.aload_n 0, 1) := by decide +kernel
theorem d_M_pair_85 : decode prog_14_method_21_code 85 = .ok (.getfield 40, 3) := by decide +kernel
theorem d_M_pair_88 : decode prog_14_method_21_code 88 = .ok (.bipush 8, 2) := by decide +kernel
theorem d_M_pair_90 : decode prog_14_method_21_code 90 = .ok (.iload_n 1, 1) := by decide +kernel
theorem d_M_pair_91 : decode prog_14_method_21_code 91 = .ok (.imul, 1) := by decide +kernel
theorem d_M_pair_92 : decode prog_14_method_21_code 92 = .ok (.iload 4, 2) := by decide +kernel
theorem d_M_pair_94 : decode prog_14_method_21_code 94 = .ok (.iadd, 1) := by decide +kernel
theorem d_M_pair_95 : decode prog_14_method_21_code 95 = .ok (.iaload, 1) := by decide +kernel
theorem d_M_pair_96 : decode prog_14_method_21_code 96 = .ok (.iload_n 2, 1) := by decide +kernel
theorem d_M_pair_97 : decode prog_14_method_21_code 97 = .ok (.if_icmp .ne 21, 3) := by decide +kernel
theorem d_M_pair_100 : decode prog_14_method_21_code 100 = .ok (.aload_n 0, 1) := by decide +kernel
theorem d_M_pair_101 : decode prog_14_method_21_code 101 = .ok (.getfield 43, 3) := by decide +kernel
theorem d_M_pair_104 : decode prog_14_method_21_code 104 = .ok (.bipush 8, 2) := by decide +kernel
theorem d_M_pair_106 : decode prog_14_method_21_code 106 = .ok (.iload_n 1, 1) := by decide +kernel
theorem d_M_pair_107 : decode prog_14_method_21_code 107 = .ok (.imul, 1) := by decide +kernel
theorem d_M_pair_108 : decode prog_14_method_21_code 108 = .ok (.iload 4, 2) := by decide +kernel
theorem d_M_pair_110 : decode prog_14_method_21_code 110 = .ok (.iadd, 1) := by decide +kernel
theorem d_M_pair_111 : decode prog_14_method_21_code 111 = .ok (.iaload, 1) := by decide +kernel
theorem d_M_pair_112 : decode prog_14_method_21_code 112 = .ok (.iload_n 3, 1) := by decide +kernel
theorem d_M_pair_113 : decode prog_14_method_21_code 113 = .ok (.if_icmp .ne 5, 3) := by decide +kernel
theorem d_M_pair_116 : decode prog_14_method_21_code 116 = .ok (.iconst (-1), 1) := by decide +kernel
theorem d_M_pair_117 : decode prog_14_method_21_code 117 = .ok (.ireturn, 1) := by decide +kernel
theorem d_M_pair_118 : decode prog_14_method_21_code 118 = .ok (.iinc 4 1, 3) := by decide +kernel
theorem d_M_pair_121 : decode prog_14_method_21_code 121 = .ok (.goto (-48), 3) := by decide +kernel
theorem d_M_pair_124 : decode prog_14_method_21_code 124 = .ok (.aload_n 0, 1) := by decide +kernel
theorem d_M_pair_125 : decode prog_14_method_21_code 125 = .ok (.getfield 40, 3) := by decide +kernel
theorem d_M_pair_128 : decode prog_14_method_21_code 128 = .ok (.bipush 8, 2) := by decide +kernel
theorem d_M_pair_130 : decode prog_14_method_21_code 130 = .ok (.iload_n 1, 1) := by decide +kernel
theorem d_M_pair_131 : decode prog_14_method_21_code 131 = .ok (.imul, 1) := by decide +kernel
theorem d_M_pair_132 : decode prog_14_method_21_code 132 = .ok (.aload_n 0, 1) := by decide +kernel
theorem d_M_pair_133 : decode prog_14_method_21_code 133 = .ok (.getfield 46, 3) := by decide +kernel
theorem d_M_pair_136 : decode prog_14_method_21_code 136 = .ok (.iload_n 1, 1) := by decide +kernel
theorem d_M_pair_137 : decode prog_14_method_21_code 137 = .ok (.iaload, 1) := by decide +kernel
theorem d_M_pair_138 : decode prog_14_method_21_code 138 = .ok (.iadd, 1) := by decide +kernel
theorem d_M_pair_139 : decode prog_14_method_21_code 139 = .ok (.iload_n 2, 1) := by decide +kernel
theorem d_M_pair_140 : decode prog_14_method_21_code 140 = .ok (.iastore, 1) := by decide +kernel
theorem d_M_pair_141 : decode prog_14_method_21_code 141 = .ok (.aload_n 0, 1) := by decide +kernel
theorem d_M_pair_142 : decode prog_14_method_21_code 142 = .ok (.getfield 43, 3) := by decide +kernel
theorem d_M_pair_145 : decode prog_14_method_21_code 145 = .ok (.bipush 8, 2) := by decide +kernel
theorem d_M_pair_147 : decode prog_14_method_21_code 147 = .ok (.iload_n 1, 1) := by decide +kernel
theorem d_M_pair_148 : decode prog_14_method_21_code 148 = .ok (.imul, 1) := by decide +kernel
theorem d_M_pair_149 : decode prog_14_method_21_code 149 = .ok (.aload_n 0, 1) := by decide +kernel
theorem d_M_pair_150 : decode prog_14_method_21_code 150 = .ok (.getfield 46, 3) := by decide +kernel
theorem d_M_pair_153 : decode prog_14_method_21_code 153 = .ok (.iload_n 1, 1) := by decide +kernel
theorem d_M_pair_154 : decode prog_14_method_21_code 154 = .ok (.iaload, 1) := by decide +kernel
theorem d_M_pair_155 : decode prog_14_method_21_code 155 = .ok (.iadd, 1) := by decide +kernel
theorem d_M_pair_156 : decode prog_14_method_21_code 156 = .ok (.iload_n 3, 1) := by decide +kernel
theorem d_M_pair_157 : decode prog_14_method_21_code 157 = .ok (.iastore, 1) := by decide +kernel
theorem d_M_pair_158 : decode prog_14_method_21_code 158 = .ok (.aload_n 0, 1) := by decide +kernel
theorem d_M_pair_159 : decode prog_14_method_21_code 159 = .ok (.getfield 46, 3) := by decide +kernel
theorem d_M_pair_162 : decode prog_14_method_21_code 162 = .ok (.iload_n 1, 1) := by decide +kernel
theorem d_M_pair_163 : decode prog_14_method_21_code 163 = .ok (.dup2, 1) := by decide +kernel
theorem d_M_pair_164 : decode prog_14_method_21_code 164 = .ok (.iaload, 1) := by decide +kernel
theorem d_M_pair_165 : decode prog_14_method_21_code 165 = .ok (.iconst 1, 1) := by decide +kernel
theorem d_M_pair_166 : decode prog_14_method_21_code 166 = .ok (.iadd, 1) := by decide +kernel
theorem d_M_pair_167 : decode prog_14_method_21_code 167 = .ok (.iastore, 1) := by decide +kernel
theorem d_M_pair_168 : decode prog_14_method_21_code 168 = .ok (.aload_n 0, 1) := by decide +kernel
theorem d_M_pair_169 : decode prog_14_method_21_code 169 = .ok (.getfield 46, 3) := by decide +kernel
theorem d_M_pair_172 : decode prog_14_method_21_code 172 = .ok (.iload_n 1, 1) := by decide +kernel
theorem d_M_pair_173 : decode prog_14_method_21_code 173 = .ok (.iaload, 1) := by decide +kernel
theorem d_M_pair_174 : decode prog_14_method_21_code 174 = .ok (.ireturn, 1) := by decide +kernel
theorem d_M_sign_0 : decode prog_14_method_22_code 0 = .ok (.aload_n 0, 1) := by decide +kernel
theorem d_M_sign_1 : decode prog_14_method_22_code 1 = .ok (.iconst 0, 1) := by decide +kernel
theorem d_M_sign_2 : decode prog_14_method_22_code 2 = .ok (.putfield 148, 3) := by decide +kernel
theorem d_M_sign_5 : decode prog_14_method_22_code 5 = .ok (.aload_n 0, 1) := by decide +kernel
theorem d_M_sign_6 : decode prog_14_method_22_code 6 = .ok (.getfield 200, 3) := by decide +kernel
theorem d_M_sign_9 : decode prog_14_method_22_code 9 = .ok (.iconst 4, 1) := by decide +kernel
theorem d_M_sign_10 : decode prog_14_method_22_code 10 = .ok (.iadd, 1) := by decide +kernel
theorem d_M_sign_11 : decode prog_14_method_22_code 11 = .ok (.bipush 100, 2) := by decide +kernel
theorem d_M_sign_13 : decode prog_14_method_22_code 13 = .ok (.if_icmp .le 5, 3) := by decide +kernel
theorem d_M_sign_16 : decode prog_14_method_22_code 16 = .ok (.iconst (-1), 1) := by decide +kernel
theorem d_M_sign_17 : decode prog_14_method_22_code 17 = .ok (.ireturn, 1) := by decide +kernel
theorem d_M_sign_18 : decode prog_14_method_22_code 18 = .ok (.iconst 3, 1) := by decide +kernel
theorem d_M_sign_19 : decode prog_14_method_22_code 19 = .ok (.istore_n 2, 1) := by decide +kernel
theorem d_M_sign_20 : decode prog_14_method_22_code 20 = .ok (.iload_n 2, 1) := by decide +kernel
theorem d_M_sign_21 : decode prog_14_method_22_code 21 = .ok (.ifCond .lt 32, 3) := by decide +kernel
theorem d_M_sign_24 : decode prog_14_method_22_code 24 = .ok (.aload_n 0, 1) := by decide +kernel
theorem d_M_sign_25 : decode prog_14_method_22_code 25 = .ok (.getfield 86, 3) := by decide +kernel
theorem d_M_sign_28 : decode prog_14_method_22_code 28 = .ok (.aload_n 0, 1) := by decide +kernel
theorem d_M_sign_29 : decode prog_14_method_22_code 29 = .ok (.dup, 1) := by decide +kernel
theorem d_M_sign_30 : decode prog_14_method_22_code 30 = .ok (.getfield 200, 3) := by decide +kernel
theorem d_M_sign_33 : decode prog_14_method_22_code 33 = .ok (.dup_x1, 1) := by decide +kernel
theorem d_M_sign_34 : decode prog_14_method_22_code 34 = .ok (.iconst 1, 1) := by decide +kernel
theorem d_M_sign_35 : decode prog_14_method_22_code 35 = .ok (.iadd, 1) := by decide +kernel
theorem d_M_sign_36 : decode prog_14_method_22_code 36 = .ok (.putfield 200, 3) := by decide +kernel
theorem d_M_sign_39 : decode prog_14_method_22_code 39 = .ok (.iload_n 1, 1) := by decide +kernel
theorem d_M_sign_40 : decode prog_14_method_22_code 40 = .ok (.bipush 8, 2) := by decide +kernel
theorem d_M_sign_42 : decode prog_14_method_22_code 42 = .ok (.iload_n 2, 1) := by decide +kernel
theorem d_M_sign_43 : decode prog_14_method_22_code 43 = .ok (.imul, 1) := by decide +kernel
theorem d_M_sign_44 : decode prog_14_method_22_code 44 = .ok (.ishr, 1) := by decide +kernel
theorem d_M_sign_45 : decode prog_14_method_22_code 45 = .ok (.i2b, 1) := by decide +kernel
theorem d_M_sign_46 : decode prog_14_method_22_code 46 = .ok (.bastore, 1) := by decide +kernel
theorem d_M_sign_47 : decode prog_14_method_22_code 47 = .ok (.iinc 2 (-1), 3) := by decide +kernel
theorem d_M_sign_50 : decode prog_14_method_22_code 50 = .ok (.goto (-30), 3) := by decide +kernel
theorem d_M_sign_53 : decode prog_14_method_22_code 53 = .ok (.aload_n 0, 1) := by decide +kernel
theorem d_M_sign_54 : decode prog_14_method_22_code 54 = .ok (.getfield 200, 3) := by decide +kernel
theorem d_M_sign_57 : decode prog_14_method_22_code 57 = .ok (.ireturn, 1) := by decide +kernel
theorem d_M_end_0 : decode prog_14_method_23_code 0 = .ok (.aload_n 0, 1) := by decide +kernel
theorem d_M_end_1 : decode prog_14_method_23_code 1 = .ok (.iconst 0, 1) := by decide +kernel
theorem d_M_end_2 : decode prog_14_method_23_code 2 = .ok (.putfield 148, 3) := by decide +kernel
theorem d_M_end_5 : decode prog_14_method_23_code 5 = .ok (.iload_n 1, 1) := by decide +kernel
theorem d_M_end_6 : decode prog_14_method_23_code 6 = .ok (.iconst 0, 1) := by decide +kernel
theorem d_M_end_7 : decode prog_14_method_23_code 7 = .ok (.aload_n 0, 1) := by decide +kernel
theorem d_M_end_8 : decode prog_14_method_23_code 8 = .ok (.getfield 200, 3) := by decide +kernel
theorem d_M_end_11 : decode prog_14_method_23_code 11 = .ok (.invokestatic 154, 3) := by decide +kernel
theorem d_M_end_14 : decode prog_14_method_23_code 14 = .ok (.ifCond .ne 5, 3) := by decide +kernel
theorem d_M_end_17 : decode prog_14_method_23_code 17 = .ok (.iconst 0, 1) := by decide +kernel
theorem d_M_end_18 : decode prog_14_method_23_code 18 = .ok (.ireturn, 1) := by decide +kernel
theorem d_M_end_19 : decode prog_14_method_23_code 19 = .ok (.aload_n 0, 1) := by decide +kernel
theorem d_M_end_20 : decode prog_14_method_23_code 20 = .ok (.iload_n 1, 1) := by decide +kernel
theorem d_M_end_21 : decode prog_14_method_23_code 21 = .ok (.putfield 200, 3) := by decide +kernel
theorem d_M_end_24 : decode prog_14_method_23_code 24 = .ok (.iconst 1, 1) := by decide +kernel
theorem d_M_end_25 : decode prog_14_method_23_code 25 = .ok (.ireturn, 1) := by decide +kernel
theorem d_M_here_0 : decode prog_14_method_24_code 0 = .ok (.aload_n 0, 1) := by decide +kernel
theorem d_M_here_1 : decode prog_14_method_24_code 1 = .ok (.getfield 203, 3) := by decide +kernel
theorem d_M_here_4 : decode prog_14_method_24_code 4 = .ok (.aload_n 0, 1) := by decide +kernel
theorem d_M_here_5 : decode prog_14_method_24_code 5 = .ok (.getfield 206, 3) := by decide +kernel
theorem d_M_here_8 : decode prog_14_method_24_code 8 = .ok (.if_icmp .ge 24, 3) := by decide +kernel
theorem d_M_here_11 : decode prog_14_method_24_code 11 = .ok (.aload_n 0, 1) := by decide +kernel
theorem d_M_here_12 : decode prog_14_method_24_code 12 = .ok (.getfield 203, 3) := by decide +kernel
theorem d_M_here_15 : decode prog_14_method_24_code 15 = .ok (.bipush 60, 2) := by decide +kernel
theorem d_M_here_17 : decode prog_14_method_24_code 17 = .ok (.if_icmp .ge 15, 3) := by decide +kernel
theorem d_M_here_20 : decode prog_14_method_24_code 20 = .ok (.aload_n 0, 1) := by decide +kernel
theorem d_M_here_21 : decode prog_14_method_24_code 21 = .ok (.getfield 86, 3) := by decide +kernel
theorem d_M_here_24 : decode prog_14_method_24_code 24 = .ok (.aload_n 0, 1) := by decide +kernel
theorem d_M_here_25 : decode prog_14_method_24_code 25 = .ok (.getfield 203, 3) := by decide +kernel
theorem d_M_here_28 : decode prog_14_method_24_code 28 = .ok (.baload, 1) := by decide +kernel
theorem d_M_here_29 : decode prog_14_method_24_code 29 = .ok (.goto 4, 3) := by decide +kernel
theorem d_M_here_32 : decode prog_14_method_24_code 32 = .ok (.iconst (-1), 1) := by decide +kernel
theorem d_M_here_33 : decode prog_14_method_24_code 33 = .ok (.ireturn, 1) := by decide +kernel
theorem d_M_passes_0 : decode prog_14_method_25_code 0 = .ok (.aload_n 0, 1) := by decide +kernel
theorem d_M_passes_1 : decode prog_14_method_25_code 1 = .ok (.invokevirtual 209, 3) := by decide +kernel
theorem d_M_passes_4 : decode prog_14_method_25_code 4 = .ok (.iload_n 1, 1) := by decide +kernel
theorem d_M_passes_5 : decode prog_14_method_25_code 5 = .ok (.if_icmp .eq 5, 3) := by decide +kernel
theorem d_M_passes_8 : decode prog_14_method_25_code 8 = .ok (.iconst 0, 1) := by decide +kernel
theorem d_M_passes_9 : decode prog_14_method_25_code 9 = .ok (.ireturn, 1) := by decide +kernel
theorem d_M_passes_10 : decode prog_14_method_25_code 10 = .ok (.aload_n 0, 1) := by decide +kernel
theorem d_M_passes_11 : decode prog_14_method_25_code 11 = .ok (.dup, 1) := by decide +kernel
theorem d_M_passes_12 : decode prog_14_method_25_code 12 = .ok (.getfield 203, 3) := by decide +kernel
theorem d_M_passes_15 : decode prog_14_method_25_code 15 = .ok (.iconst 1, 1) := by decide +kernel
theorem d_M_passes_16 : decode prog_14_method_25_code 16 = .ok (.iadd, 1) := by decide +kernel
theorem d_M_passes_17 : decode prog_14_method_25_code 17 = .ok (.putfield 203, 3) := by decide +kernel
theorem d_M_passes_20 : decode prog_14_method_25_code 20 = .ok (.iconst 1, 1) := by decide +kernel
theorem d_M_passes_21 : decode prog_14_method_25_code 21 = .ok (.ireturn, 1) := by decide +kernel
theorem d_M_digit_0 : decode prog_14_method_26_code 0 = .ok (.aload_n 0, 1) := by decide +kernel
theorem d_M_digit_1 : decode prog_14_method_26_code 1 = .ok (.invokevirtual 209, 3) := by decide +kernel
theorem d_M_digit_4 : decode prog_14_method_26_code 4 = .ok (.bipush 48, 2) := by decide +kernel
theorem d_M_digit_6 : decode prog_14_method_26_code 6 = .ok (.iload_n 1, 1) := by decide +kernel
theorem d_M_digit_7 : decode prog_14_method_26_code 7 = .ok (.invokestatic 154, 3) := by decide +kernel
theorem d_M_digit_10 : decode prog_14_method_26_code 10 = .ok (.ifCond .ne 5, 3) := by decide +kernel
theorem d_M_digit_13 : decode prog_14_method_26_code 13 = .ok (.iconst (-1), 1) := by decide +kernel
theorem d_M_digit_14 : decode prog_14_method_26_code 14 = .ok (.ireturn, 1) := by decide +kernel
theorem d_M_digit_15 : decode prog_14_method_26_code 15 = .ok (.aload_n 0, 1) := by decide +kernel
theorem d_M_digit_16 : decode prog_14_method_26_code 16 = .ok (.dup, 1) := by decide +kernel
theorem d_M_digit_17 : decode prog_14_method_26_code 17 = .ok (.getfield 203, 3) := by decide +kernel
theorem d_M_digit_20 : decode prog_14_method_26_code 20 = .ok (.iconst 1, 1) := by decide +kernel
theorem d_M_digit_21 : decode prog_14_method_26_code 21 = .ok (.iadd, 1) := by decide +kernel
theorem d_M_digit_22 : decode prog_14_method_26_code 22 = .ok (.putfield 203, 3) := by decide +kernel
theorem d_M_digit_25 : decode prog_14_method_26_code 25 = .ok (.aload_n 0, 1) := by decide +kernel
theorem d_M_digit_26 : decode prog_14_method_26_code 26 = .ok (.getfield 86, 3) := by decide +kernel
theorem d_M_digit_29 : decode prog_14_method_26_code 29 = .ok (.aload_n 0, 1) := by decide +kernel
theorem d_M_digit_30 : decode prog_14_method_26_code 30 = .ok (.getfield 203, 3) := by decide +kernel
theorem d_M_digit_33 : decode prog_14_method_26_code 33 = .ok (.iconst 1, 1) := by decide +kernel
theorem d_M_digit_34 : decode prog_14_method_26_code 34 = .ok (.isub, 1) := by decide +kernel
theorem d_M_digit_35 : decode prog_14_method_26_code 35 = .ok (.baload, 1) := by decide +kernel
theorem d_M_digit_36 : decode prog_14_method_26_code 36 = .ok (.bipush 48, 2) := by decide +kernel
theorem d_M_digit_38 : decode prog_14_method_26_code 38 = .ok (.isub, 1) := by decide +kernel
theorem d_M_digit_39 : decode prog_14_method_26_code 39 = .ok (.ireturn, 1) := by decide +kernel
theorem d_M_number_0 : decode prog_14_method_27_code 0 = .ok (.aload_n 0, 1) := by decide +kernel
theorem d_M_number_1 : decode prog_14_method_27_code 1 = .ok (.bipush 57, 2) := by decide +kernel
theorem d_M_number_3 : decode prog_14_method_27_code 3 = .ok (.invokevirtual 213, 3) := by decide +kernel
theorem d_M_number_6 : decode prog_14_method_27_code 6 = .ok (.istore_n 1, 1) := by decide +kernel
theorem d_M_number_7 : decode prog_14_method_27_code 7 = .ok (.iconst 1, 1) := by decide +kernel
theorem d_M_number_8 : decode prog_14_method_27_code 8 = .ok (.istore_n 2, 1) := by decide +kernel
theorem d_M_number_9 : decode prog_14_method_27_code 9 = .ok (.iload_n 2, 1) := by decide +kernel
theorem d_M_number_10 : decode prog_14_method_27_code 10 = .ok (.iconst 3, 1) := by decide +kernel
theorem d_M_number_11 : decode prog_14_method_27_code 11 = .ok (.if_icmp .ge 40, 3) := by decide +kernel
theorem d_M_number_14 : decode prog_14_method_27_code 14 = .ok (.iload_n 1, 1) := by decide +kernel
theorem d_M_number_15 : decode prog_14_method_27_code 15 = .ok (.iconst (-1), 1) := by decide +kernel
theorem d_M_number_16 : decode prog_14_method_27_code 16 = .ok (.if_icmp .eq 35, 3) := by decide +kernel
theorem d_M_number_19 : decode prog_14_method_27_code 19 = .ok (.aload_n 0, 1) := by decide +kernel
theorem d_M_number_20 : decode prog_14_method_27_code 20 = .ok (.invokevirtual 209, 3) := by decide +kernel
theorem d_M_number_23 : decode prog_14_method_27_code 23 = .ok (.bipush 48, 2) := by decide +kernel
theorem d_M_number_25 : decode prog_14_method_27_code 25 = .ok (.bipush 57, 2) := by decide +kernel
theorem d_M_number_27 : decode prog_14_method_27_code 27 = .ok (.invokestatic 154, 3) := by decide +kernel
theorem d_M_number_30 : decode prog_14_method_27_code 30 = .ok (.ifCond .eq 21, 3) := by decide +kernel
theorem d_M_number_33 : decode prog_14_method_27_code 33 = .ok (.bipush 10, 2) := by decide +kernel
theorem d_M_number_35 : decode prog_14_method_27_code 35 = .ok (.iload_n 1, 1) := by decide +kernel
theorem d_M_number_36 : decode prog_14_method_27_code 36 = .ok (.imul, 1) := by decide +kernel
theorem d_M_number_37 : decode prog_14_method_27_code 37 = .ok (.aload_n 0, 1) := by decide +kernel
theorem d_M_number_38 : decode prog_14_method_27_code 38 = .ok (.bipush 57, 2) := by decide +kernel
theorem d_M_number_40 : decode prog_14_method_27_code 40 = .ok (.invokevirtual 213, 3) := by decide +kernel
theorem d_M_number_43 : decode prog_14_method_27_code 43 = .ok (.iadd, 1) := by decide +kernel
theorem d_M_number_44 : decode prog_14_method_27_code 44 = .ok (.istore_n 1, 1) := by decide +kernel
theorem d_M_number_45 : decode prog_14_method_27_code 45 = .ok (.iinc 2 1, 3) := by decide +kernel
theorem d_M_number_48 : decode prog_14_method_27_code 48 = .ok (.goto (-39), 3) := by decide +kernel
theorem d_M_number_51 : decode prog_14_method_27_code 51 = .ok (.iload_n 1, 1) := by decide +kernel
theorem d_M_number_52 : decode prog_14_method_27_code 52 = .ok (.ireturn, 1) := by decide +kernel
theorem d_M_key_0 : decode prog_14_method_28_code 0 = .ok (.aload_n 0, 1) := by decide +kernel
theorem d_M_key_1 : decode prog_14_method_28_code 1 = .ok (.invokevirtual 209, 3) := by decide +kernel
theorem d_M_key_4 : decode prog_14_method_28_code 4 = .ok (.istore_n 1, 1) := by decide +kernel
theorem d_M_key_5 : decode prog_14_method_28_code 5 = .ok (.iload_n 1, 1) := by decide +kernel
theorem d_M_key_6 : decode prog_14_method_28_code 6 = .ok (.bipush 43, 2) := by decide +kernel
theorem d_M_key_8 : decode prog_14_method_28_code 8 = .ok (.if_icmp .eq 11, 3) := by decide +kernel
theorem d_M_key_11 : decode prog_14_method_28_code 11 = .ok (.iload_n 1, 1) := by decide +kernel
theorem d_M_key_12 : decode prog_14_method_28_code 12 = .ok (.bipush 45, 2) := by decide +kernel
theorem d_M_key_14 : decode prog_14_method_28_code 14 = .ok (.if_icmp .eq 5, 3) := by decide +kernel
theorem d_M_key_17 : decode prog_14_method_28_code 17 = .ok (.iconst 0, 1) := by decide +kernel
theorem d_M_key_18 : decode prog_14_method_28_code 18 = .ok (.ireturn, 1) := by decide +kernel
theorem d_M_key_19 : decode prog_14_method_28_code 19 = .ok (.aload_n 0, 1) := by decide +kernel
theorem d_M_key_20 : decode prog_14_method_28_code 20 = .ok (.dup, 1) := by decide +kernel
theorem d_M_key_21 : decode prog_14_method_28_code 21 = .ok (.getfield 203, 3) := by decide +kernel
theorem d_M_key_24 : decode prog_14_method_28_code 24 = .ok (.iconst 1, 1) := by decide +kernel
theorem d_M_key_25 : decode prog_14_method_28_code 25 = .ok (.iadd, 1) := by decide +kernel
theorem d_M_key_26 : decode prog_14_method_28_code 26 = .ok (.putfield 203, 3) := by decide +kernel
theorem d_M_key_29 : decode prog_14_method_28_code 29 = .ok (.aload_n 0, 1) := by decide +kernel
theorem d_M_key_30 : decode prog_14_method_28_code 30 = .ok (.invokevirtual 209, 3) := by decide +kernel
theorem d_M_key_33 : decode prog_14_method_28_code 33 = .ok (.istore_n 2, 1) := by decide +kernel
theorem d_M_key_34 : decode prog_14_method_28_code 34 = .ok (.iload_n 2, 1) := by decide +kernel
theorem d_M_key_35 : decode prog_14_method_28_code 35 = .ok (.iconst (-1), 1) := by decide +kernel
theorem d_M_key_36 : decode prog_14_method_28_code 36 = .ok (.if_icmp .ne 7, 3) := by decide +kernel
theorem d_M_key_39 : decode prog_14_method_28_code 39 = .ok (.iconst (-1), 1) := by decide +kernel
theorem d_M_key_40 : decode prog_14_method_28_code 40 = .ok (.goto 9, 3) := by decide +kernel
theorem d_M_key_43 : decode prog_14_method_28_code 43 = .ok (.ldc 217, 2) := by decide +kernel
theorem d_M_key_45 : decode prog_14_method_28_code 45 = .ok (.iload_n 2, 1) := by decide +kernel
theorem d_M_key_46 : decode prog_14_method_28_code 46 = .ok (.invokevirtual 219, 3) := by decide +kernel
theorem d_M_key_49 : decode prog_14_method_28_code 49 = .ok (.istore_n 3, 1) := by decide +kernel
theorem d_M_key_50 : decode prog_14_method_28_code 50 = .ok (.iload_n 3, 1) := by decide +kernel
theorem d_M_key_51 : decode prog_14_method_28_code 51 = .ok (.ifCond .ge 5, 3) := by decide +kernel
theorem d_M_key_54 : decode prog_14_method_28_code 54 = .ok (.iconst 0, 1) := by decide +kernel
theorem d_M_key_55 : decode prog_14_method_28_code 55 = .ok (.ireturn, 1) := by decide +kernel
theorem d_M_key_56 : decode prog_14_method_28_code 56 = .ok (.aload_n 0, 1) := by decide +kernel
theorem d_M_key_57 : decode prog_14_method_28_code 57 = .ok (.dup, 1) := by decide +kernel
theorem d_M_key_58 : decode prog_14_method_28_code 58 = .ok (.getfield 203, 3) := by decide +kernel
theorem d_M_key_61 : decode prog_14_method_28_code 61 = .ok (.iconst 1, 1) := by decide +kernel
theorem d_M_key_62 : decode prog_14_method_28_code 62 = .ok (.iadd, 1) := by decide +kernel
theorem d_M_key_63 : decode prog_14_method_28_code 63 = .ok (.putfield 203, 3) := by decide +kernel
theorem d_M_key_66 : decode prog_14_method_28_code 66 = .ok (.aload_n 0, 1) := by decide +kernel
theorem d_M_key_67 : decode prog_14_method_28_code 67 = .ok (.getfield 102, 3) := by decide +kernel
theorem d_M_key_70 : decode prog_14_method_28_code 70 = .ok (.aload_n 0, 1) := by decide +kernel
theorem d_M_key_71 : decode prog_14_method_28_code 71 = .ok (.getfield 224, 3) := by decide +kernel
theorem d_M_key_74 : decode prog_14_method_28_code 74 = .ok (.iload_n 1, 1) := by decide +kernel
theorem d_M_key_75 : decode prog_14_method_28_code 75 = .ok (.bipush 43, 2) := by decide +kernel
theorem d_M_key_77 : decode prog_14_method_28_code 77 = .ok (.if_icmp .ne 7, 3) := by decide +kernel
theorem d_M_key_80 : decode prog_14_method_28_code 80 = .ok (.iload_n 3, 1) := by decide +kernel
theorem d_M_key_81 : decode prog_14_method_28_code 81 = .ok (.goto 6, 3) := by decide +kernel
theorem d_M_key_84 : decode prog_14_method_28_code 84 = .ok (.iload_n 3, 1) := by decide +kernel
theorem d_M_key_85 : decode prog_14_method_28_code 85 = .ok (.iconst 5, 1) := by decide +kernel
theorem d_M_key_86 : decode prog_14_method_28_code 86 = .ok (.iadd, 1) := by decide +kernel
theorem d_M_key_87 : decode prog_14_method_28_code 87 = .ok (.iastore, 1) := by decide +kernel
theorem d_M_key_88 : decode prog_14_method_28_code 88 = .ok (.aload_n 0, 1) := by decide +kernel
theorem d_M_key_89 : decode prog_14_method_28_code 89 = .ok (.dup, 1) := by decide +kernel
theorem d_M_key_90 : decode prog_14_method_28_code 90 = .ok (.getfield 224, 3) := by decide +kernel
theorem d_M_key_93 : decode prog_14_method_28_code 93 = .ok (.iconst 1, 1) := by decide +kernel
theorem d_M_key_94 : decode prog_14_method_28_code 94 = .ok (.iadd, 1) := by decide +kernel
theorem d_M_key_95 : decode prog_14_method_28_code 95 = .ok (.putfield 224, 3) := by decide +kernel
theorem d_M_key_98 : decode prog_14_method_28_code 98 = .ok (.iconst 1, 1) := by decide +kernel
theorem d_M_key_99 : decode prog_14_method_28_code 99 = .ok (.ireturn, 1) := by decide +kernel
theorem d_M_two_0 : decode prog_14_method_29_code 0 = .ok (.aload_n 0, 1) := by decide +kernel
theorem d_M_two_1 : decode prog_14_method_29_code 1 = .ok (.bipush 54, 2) := by decide +kernel
theorem d_M_two_3 : decode prog_14_method_29_code 3 = .ok (.invokevirtual 213, 3) := by decide +kernel
theorem d_M_two_6 : decode prog_14_method_29_code 6 = .ok (.istore_n 2, 1) := by decide +kernel
theorem d_M_two_7 : decode prog_14_method_29_code 7 = .ok (.iload_n 2, 1) := by decide +kernel
theorem d_M_two_8 : decode prog_14_method_29_code 8 = .ok (.iconst (-1), 1) := by decide +kernel
theorem d_M_two_9 : decode prog_14_method_29_code 9 = .ok (.if_icmp .eq 11, 3) := by decide +kernel
theorem d_M_two_12 : decode prog_14_method_29_code 12 = .ok (.aload_n 0, 1) := by decide +kernel
theorem d_M_two_13 : decode prog_14_method_29_code 13 = .ok (.iload_n 1, 1) := by decide +kernel
theorem d_M_two_14 : decode prog_14_method_29_code 14 = .ok (.invokevirtual 227, 3) := by decide +kernel
theorem d_M_two_17 : decode prog_14_method_29_code 17 = .ok (.ifCond .ne 5, 3) := by decide +kernel
theorem d_M_two_20 : decode prog_14_method_29_code 20 = .ok (.iconst (-1), 1) := by decide +kernel
theorem d_M_two_21 : decode prog_14_method_29_code 21 = .ok (.ireturn, 1) := by decide +kernel
theorem d_M_two_22 : decode prog_14_method_29_code 22 = .ok (.aload_n 0, 1) := by decide +kernel
theorem d_M_two_23 : decode prog_14_method_29_code 23 = .ok (.invokevirtual 209, 3) := by decide +kernel
theorem d_M_two_26 : decode prog_14_method_29_code 26 = .ok (.bipush 48, 2) := by decide +kernel
theorem d_M_two_28 : decode prog_14_method_29_code 28 = .ok (.iload_n 2, 1) := by decide +kernel
theorem d_M_two_29 : decode prog_14_method_29_code 29 = .ok (.iadd, 1) := by decide +kernel
theorem d_M_two_30 : decode prog_14_method_29_code 30 = .ok (.if_icmp .ne 5, 3) := by decide +kernel
theorem d_M_two_33 : decode prog_14_method_29_code 33 = .ok (.iconst (-1), 1) := by decide +kernel
theorem d_M_two_34 : decode prog_14_method_29_code 34 = .ok (.ireturn, 1) := by decide +kernel
theorem d_M_two_35 : decode prog_14_method_29_code 35 = .ok (.aload_n 0, 1) := by decide +kernel
theorem d_M_two_36 : decode prog_14_method_29_code 36 = .ok (.bipush 54, 2) := by decide +kernel
theorem d_M_two_38 : decode prog_14_method_29_code 38 = .ok (.invokevirtual 213, 3) := by decide +kernel
theorem d_M_two_41 : decode prog_14_method_29_code 41 = .ok (.istore_n 3, 1) := by decide +kernel
theorem d_M_two_42 : decode prog_14_method_29_code 42 = .ok (.iload_n 3, 1) := by decide +kernel
theorem d_M_two_43 : decode prog_14_method_29_code 43 = .ok (.iconst (-1), 1) := by decide +kernel
theorem d_M_two_44 : decode prog_14_method_29_code 44 = .ok (.if_icmp .ne 7, 3) := by decide +kernel
theorem d_M_two_47 : decode prog_14_method_29_code 47 = .ok (.iconst (-1), 1) := by decide +kernel
theorem d_M_two_48 : decode prog_14_method_29_code 48 = .ok (.goto 10, 3) := by decide +kernel
theorem d_M_two_51 : decode prog_14_method_29_code 51 = .ok (.iconst 1, 1) := by decide +kernel
theorem d_M_two_52 : decode prog_14_method_29_code 52 = .ok (.iload_n 2, 1) := by decide +kernel
theorem d_M_two_53 : decode prog_14_method_29_code 53 = .ok (.ishl, 1) := by decide +kernel
theorem d_M_two_54 : decode prog_14_method_29_code 54 = .ok (.iconst 1, 1) := by decide +kernel
theorem d_M_two_55 : decode prog_14_method_29_code 55 = .ok (.iload_n 3, 1) := by decide +kernel
theorem d_M_two_56 : decode prog_14_method_29_code 56 = .ok (.ishl, 1) := by decide +kernel
theorem d_M_two_57 : decode prog_14_method_29_code 57 = .ok (.ior, 1) := by decide +kernel
theorem d_M_two_58 : decode prog_14_method_29_code 58 = .ok (.ireturn, 1) := by decide +kernel
theorem d_M_line_0 : decode prog_14_method_30_code 0 = .ok (.aload_n 0, 1) := by decide +kernel
theorem d_M_line_1 : decode prog_14_method_30_code 1 = .ok (.bipush 113, 2) := by decide +kernel
theorem d_M_line_3 : decode prog_14_method_30_code 3 = .ok (.invokevirtual 227, 3) := by decide +kernel
theorem d_M_line_6 : decode prog_14_method_30_code 6 = .ok (.ifCond .eq 22, 3) := by decide +kernel
theorem d_M_line_9 : decode prog_14_method_30_code 9 = .ok (.aload_n 0, 1) := by decide +kernel
theorem d_M_line_10 : decode prog_14_method_30_code 10 = .ok (.invokevirtual 230, 3) := by decide +kernel
theorem d_M_line_13 : decode prog_14_method_30_code 13 = .ok (.istore_n 1, 1) := by decide +kernel
theorem d_M_line_14 : decode prog_14_method_30_code 14 = .ok (.iload_n 1, 1) := by decide +kernel
theorem d_M_line_15 : decode prog_14_method_30_code 15 = .ok (.iconst (-1), 1) := by decide +kernel
theorem d_M_line_16 : decode prog_14_method_30_code 16 = .ok (.if_icmp .ne 5, 3) := by decide +kernel
theorem d_M_line_19 : decode prog_14_method_30_code 19 = .ok (.iconst 0, 1) := by decide +kernel
theorem d_M_line_20 : decode prog_14_method_30_code 20 = .ok (.ireturn, 1) := by decide +kernel
theorem d_M_line_21 : decode prog_14_method_30_code 21 = .ok (.aload_n 0, 1) := by decide +kernel
theorem d_M_line_22 : decode prog_14_method_30_code 22 = .ok (.iload_n 1, 1) := by decide +kernel
theorem d_M_line_23 : decode prog_14_method_30_code 23 = .ok (.putfield 233, 3) := by decide +kernel
theorem d_M_line_26 : decode prog_14_method_30_code 26 = .ok (.iconst 1, 1) := by decide +kernel
theorem d_M_line_27 : decode prog_14_method_30_code 27 = .ok (.ireturn, 1) := by decide +kernel
theorem d_M_line_28 : decode prog_14_method_30_code 28 = .ok (.aload_n 0, 1) := by decide +kernel
theorem d_M_line_29 : decode prog_14_method_30_code 29 = .ok (.bipush 99, 2) := by decide +kernel
theorem d_M_line_31 : decode prog_14_method_30_code 31 = .ok (.invokevirtual 227, 3) := by decide +kernel
theorem d_M_line_34 : decode prog_14_method_30_code 34 = .ok (.ifCond .eq 22, 3) := by decide +kernel
theorem d_M_line_37 : decode prog_14_method_30_code 37 = .ok (.aload_n 0, 1) := by decide +kernel
theorem d_M_line_38 : decode prog_14_method_30_code 38 = .ok (.invokevirtual 230, 3) := by decide +kernel
theorem d_M_line_41 : decode prog_14_method_30_code 41 = .ok (.istore_n 1, 1) := by decide +kernel
theorem d_M_line_42 : decode prog_14_method_30_code 42 = .ok (.iload_n 1, 1) := by decide +kernel
theorem d_M_line_43 : decode prog_14_method_30_code 43 = .ok (.iconst (-1), 1) := by decide +kernel
theorem d_M_line_44 : decode prog_14_method_30_code 44 = .ok (.if_icmp .ne 5, 3) := by decide +kernel
theorem d_M_line_47 : decode prog_14_method_30_code 47 = .ok (.iconst 0, 1) := by decide +kernel
theorem d_M_line_48 : decode prog_14_method_30_code 48 = .ok (.ireturn, 1) := by decide +kernel
theorem d_M_line_49 : decode prog_14_method_30_code 49 = .ok (.aload_n 0, 1) := by decide +kernel
theorem d_M_line_50 : decode prog_14_method_30_code 50 = .ok (.iload_n 1, 1) := by decide +kernel
theorem d_M_line_51 : decode prog_14_method_30_code 51 = .ok (.putfield 236, 3) := by decide +kernel
theorem d_M_line_54 : decode prog_14_method_30_code 54 = .ok (.iconst 1, 1) := by decide +kernel
theorem d_M_line_55 : decode prog_14_method_30_code 55 = .ok (.ireturn, 1) := by decide +kernel
theorem d_M_line_56 : decode prog_14_method_30_code 56 = .ok (.aload_n 0, 1) := by decide +kernel
theorem d_M_line_57 : decode prog_14_method_30_code 57 = .ok (.bipush 114, 2) := by decide +kernel
theorem d_M_line_59 : decode prog_14_method_30_code 59 = .ok (.invokevirtual 227, 3) := by decide +kernel
theorem d_M_line_62 : decode prog_14_method_30_code 62 = .ok (.ifCond .eq 54, 3) := by decide +kernel
theorem d_M_line_65 : decode prog_14_method_30_code 65 = .ok (.aload_n 0, 1) := by decide +kernel
theorem d_M_line_66 : decode prog_14_method_30_code 66 = .ok (.iconst 0, 1) := by decide +kernel
theorem d_M_line_67 : decode prog_14_method_30_code 67 = .ok (.putfield 224, 3) := by decide +kernel
theorem d_M_line_70 : decode prog_14_method_30_code 70 = .ok (.aload_n 0, 1) := by decide +kernel
theorem d_M_line_71 : decode prog_14_method_30_code 71 = .ok (.invokevirtual 239, 3) := by decide +kernel
theorem d_M_line_74 : decode prog_14_method_30_code 74 = .ok (.ifCond .ne 5, 3) := by decide +kernel
theorem d_M_line_77 : decode prog_14_method_30_code 77 = .ok (.iconst 0, 1) := by decide +kernel
theorem d_M_line_78 : decode prog_14_method_30_code 78 = .ok (.ireturn, 1) := by decide +kernel
theorem d_M_line_79 : decode prog_14_method_30_code 79 = .ok (.aload_n 0, 1) := by decide +kernel
theorem d_M_line_80 : decode prog_14_method_30_code 80 = .ok (.getfield 224, 3) := by decide +kernel
theorem d_M_line_83 : decode prog_14_method_30_code 83 = .ok (.iconst 5, 1) := by decide +kernel
theorem d_M_line_84 : decode prog_14_method_30_code 84 = .ok (.if_icmp .ge 30, 3) := by decide +kernel
theorem d_M_line_87 : decode prog_14_method_30_code 87 = .ok (.aload_n 0, 1) := by decide +kernel
theorem d_M_line_88 : decode prog_14_method_30_code 88 = .ok (.invokevirtual 209, 3) := by decide +kernel
theorem d_M_line_91 : decode prog_14_method_30_code 91 = .ok (.bipush 43, 2) := by decide +kernel
theorem d_M_line_93 : decode prog_14_method_30_code 93 = .ok (.if_icmp .eq 12, 3) := by decide +kernel
theorem d_M_line_96 : decode prog_14_method_30_code 96 = .ok (.aload_n 0, 1) := by decide +kernel
theorem d_M_line_97 : decode prog_14_method_30_code 97 = .ok (.invokevirtual 209, 3) := by decide +kernel
theorem d_M_line_100 : decode prog_14_method_30_code 100 = .ok (.bipush 45, 2) := by decide +kernel
theorem d_M_line_102 : decode prog_14_method_30_code 102 = .ok (.if_icmp .ne 12, 3) := by decide +kernel
theorem d_M_line_105 : decode prog_14_method_30_code 105 = .ok (.aload_n 0, 1) := by decide +kernel
theorem d_M_line_106 : decode prog_14_method_30_code 106 = .ok (.invokevirtual 239, 3) := by decide +kernel
theorem d_M_line_109 : decode prog_14_method_30_code 109 = .ok (.ifCond .ne (-30), 3) := by decide +kernel
theorem d_M_line_112 : decode prog_14_method_30_code 112 = .ok (.iconst 0, 1) := by decide +kernel
theorem d_M_line_113 : decode prog_14_method_30_code 113 = .ok (.ireturn, 1) := by decide +kernel
theorem d_M_line_114 : decode prog_14_method_30_code 114 = .ok (.iconst 1, 1) := by decide +kernel
theorem d_M_line_115 : decode prog_14_method_30_code 115 = .ok (.ireturn, 1) := by decide +kernel
theorem d_M_line_116 : decode prog_14_method_30_code 116 = .ok (.aload_n 0, 1) := by decide +kernel
theorem d_M_line_117 : decode prog_14_method_30_code 117 = .ok (.bipush 107, 2) := by decide +kernel
theorem d_M_line_119 : decode prog_14_method_30_code 119 = .ok (.invokevirtual 227, 3) := by decide +kernel
theorem d_M_line_122 : decode prog_14_method_30_code 122 = .ok (.ifCond .eq 72, 3) := by decide +kernel
theorem d_M_line_125 : decode prog_14_method_30_code 125 = .ok (.aload_n 0, 1) := by decide +kernel
theorem d_M_line_126 : decode prog_14_method_30_code 126 = .ok (.bipush 51, 2) := by decide +kernel
theorem d_M_line_128 : decode prog_14_method_30_code 128 = .ok (.invokevirtual 213, 3) := by decide +kernel
theorem d_M_line_131 : decode prog_14_method_30_code 131 = .ok (.istore_n 1, 1) := by decide +kernel
theorem d_M_line_132 : decode prog_14_method_30_code 132 = .ok (.iload_n 1, 1) := by decide +kernel
theorem d_M_line_133 : decode prog_14_method_30_code 133 = .ok (.iconst (-1), 1) := by decide +kernel
theorem d_M_line_134 : decode prog_14_method_30_code 134 = .ok (.if_icmp .eq 12, 3) := by decide +kernel
theorem d_M_line_137 : decode prog_14_method_30_code 137 = .ok (.aload_n 0, 1) := by decide +kernel
theorem d_M_line_138 : decode prog_14_method_30_code 138 = .ok (.bipush 42, 2) := by decide +kernel
theorem d_M_line_140 : decode prog_14_method_30_code 140 = .ok (.invokevirtual 227, 3) := by decide +kernel
theorem d_M_line_143 : decode prog_14_method_30_code 143 = .ok (.ifCond .ne 5, 3) := by decide +kernel
theorem d_M_line_146 : decode prog_14_method_30_code 146 = .ok (.iconst 0, 1) := by decide +kernel
theorem d_M_line_147 : decode prog_14_method_30_code 147 = .ok (.ireturn, 1) := by decide +kernel
theorem d_M_line_148 : decode prog_14_method_30_code 148 = .ok (.aload_n 0, 1) := by decide +kernel
theorem d_M_line_149 : decode prog_14_method_30_code 149 = .ok (.bipush 57, 2) := by decide +kernel
theorem d_M_line_151 : decode prog_14_method_30_code 151 = .ok (.invokevirtual 213, 3) := by decide +kernel
theorem d_M_line_154 : decode prog_14_method_30_code 154 = .ok (.istore_n 2, 1) := by decide +kernel
theorem d_M_line_155 : decode prog_14_method_30_code 155 = .ok (.iload_n 2, 1) := by decide +kernel
theorem d_M_line_156 : decode prog_14_method_30_code 156 = .ok (.iconst (-1), 1) := by decide +kernel
theorem d_M_line_157 : decode prog_14_method_30_code 157 = .ok (.if_icmp .ne 5, 3) := by decide +kernel
theorem d_M_line_160 : decode prog_14_method_30_code 160 = .ok (.iconst 0, 1) := by decide +kernel
theorem d_M_line_161 : decode prog_14_method_30_code 161 = .ok (.ireturn, 1) := by decide +kernel
theorem d_M_line_162 : decode prog_14_method_30_code 162 = .ok (.aload_n 0, 1) := by decide +kernel
theorem d_M_line_163 : decode prog_14_method_30_code 163 = .ok (.getfield 105, 3) := by decide +kernel
theorem d_M_line_166 : decode prog_14_method_30_code 166 = .ok (.aload_n 0, 1) := by decide +kernel
theorem d_M_line_167 : decode prog_14_method_30_code 167 = .ok (.getfield 243, 3) := by decide +kernel
theorem d_M_line_170 : decode prog_14_method_30_code 170 = .ok (.iload_n 1, 1) := by decide +kernel
theorem d_M_line_171 : decode prog_14_method_30_code 171 = .ok (.iastore, 1) := by decide +kernel
theorem d_M_line_172 : decode prog_14_method_30_code 172 = .ok (.aload_n 0, 1) := by decide +kernel
theorem d_M_line_173 : decode prog_14_method_30_code 173 = .ok (.getfield 108, 3) := by decide +kernel
theorem d_M_line_176 : decode prog_14_method_30_code 176 = .ok (.aload_n 0, 1) := by decide +kernel
theorem d_M_line_177 : decode prog_14_method_30_code 177 = .ok (.getfield 243, 3) := by decide +kernel
theorem d_M_line_180 : decode prog_14_method_30_code 180 = .ok (.iload_n 2, 1) := by decide +kernel
theorem d_M_line_181 : decode prog_14_method_30_code 181 = .ok (.iastore, 1) := by decide +kernel
theorem d_M_line_182 : decode prog_14_method_30_code 182 = .ok (.aload_n 0, 1) := by decide +kernel
theorem d_M_line_183 : decode prog_14_method_30_code 183 = .ok (.dup, 1) := by decide +kernel
theorem d_M_line_184 : decode prog_14_method_30_code 184 = .ok (.getfield 243, 3) := by decide +kernel
theorem d_M_line_187 : decode prog_14_method_30_code 187 = .ok (.iconst 1, 1) := by decide +kernel
theorem d_M_line_188 : decode prog_14_method_30_code 188 = .ok (.iadd, 1) := by decide +kernel
theorem d_M_line_189 : decode prog_14_method_30_code 189 = .ok (.putfield 243, 3) := by decide +kernel
theorem d_M_line_192 : decode prog_14_method_30_code 192 = .ok (.iconst 1, 1) := by decide +kernel
theorem d_M_line_193 : decode prog_14_method_30_code 193 = .ok (.ireturn, 1) := by decide +kernel
theorem d_M_line_194 : decode prog_14_method_30_code 194 = .ok (.aload_n 0, 1) := by decide +kernel
theorem d_M_line_195 : decode prog_14_method_30_code 195 = .ok (.bipush 119, 2) := by decide +kernel
theorem d_M_line_197 : decode prog_14_method_30_code 197 = .ok (.invokevirtual 227, 3) := by decide +kernel
theorem d_M_line_200 : decode prog_14_method_30_code 200 = .ok (.ifCond .eq 39, 3) := by decide +kernel
theorem d_M_line_203 : decode prog_14_method_30_code 203 = .ok (.aload_n 0, 1) := by decide +kernel
theorem d_M_line_204 : decode prog_14_method_30_code 204 = .ok (.bipush 38, 2) := by decide +kernel
theorem d_M_line_206 : decode prog_14_method_30_code 206 = .ok (.invokevirtual 246, 3) := by decide +kernel
theorem d_M_line_209 : decode prog_14_method_30_code 209 = .ok (.istore_n 1, 1) := by decide +kernel
theorem d_M_line_210 : decode prog_14_method_30_code 210 = .ok (.iload_n 1, 1) := by decide +kernel
theorem d_M_line_211 : decode prog_14_method_30_code 211 = .ok (.iconst (-1), 1) := by decide +kernel
theorem d_M_line_212 : decode prog_14_method_30_code 212 = .ok (.if_icmp .ne 5, 3) := by decide +kernel
theorem d_M_line_215 : decode prog_14_method_30_code 215 = .ok (.iconst 0, 1) := by decide +kernel
theorem d_M_line_216 : decode prog_14_method_30_code 216 = .ok (.ireturn, 1) := by decide +kernel
theorem d_M_line_217 : decode prog_14_method_30_code 217 = .ok (.aload_n 0, 1) := by decide +kernel
theorem d_M_line_218 : decode prog_14_method_30_code 218 = .ok (.getfield 111, 3) := by decide +kernel
theorem d_M_line_221 : decode prog_14_method_30_code 221 = .ok (.aload_n 0, 1) := by decide +kernel
theorem d_M_line_222 : decode prog_14_method_30_code 222 = .ok (.getfield 249, 3) := by decide +kernel
theorem d_M_line_225 : decode prog_14_method_30_code 225 = .ok (.iload_n 1, 1) := by decide +kernel
theorem d_M_line_226 : decode prog_14_method_30_code 226 = .ok (.iastore, 1) := by decide +kernel
theorem d_M_line_227 : decode prog_14_method_30_code 227 = .ok (.aload_n 0, 1) := by decide +kernel
theorem d_M_line_228 : decode prog_14_method_30_code 228 = .ok (.dup, 1) := by decide +kernel
theorem d_M_line_229 : decode prog_14_method_30_code 229 = .ok (.getfield 249, 3) := by decide +kernel
theorem d_M_line_232 : decode prog_14_method_30_code 232 = .ok (.iconst 1, 1) := by decide +kernel
theorem d_M_line_233 : decode prog_14_method_30_code 233 = .ok (.iadd, 1) := by decide +kernel
theorem d_M_line_234 : decode prog_14_method_30_code 234 = .ok (.putfield 249, 3) := by decide +kernel
theorem d_M_line_237 : decode prog_14_method_30_code 237 = .ok (.iconst 1, 1) := by decide +kernel
theorem d_M_line_238 : decode prog_14_method_30_code 238 = .ok (.ireturn, 1) := by decide +kernel
theorem d_M_line_239 : decode prog_14_method_30_code 239 = .ok (.aload_n 0, 1) := by decide +kernel
theorem d_M_line_240 : decode prog_14_method_30_code 240 = .ok (.bipush 120, 2) := by decide +kernel
theorem d_M_line_242 : decode prog_14_method_30_code 242 = .ok (.invokevirtual 227, 3) := by decide +kernel
theorem d_M_line_245 : decode prog_14_method_30_code 245 = .ok (.ifCond .ne 5, 3) := by decide +kernel
theorem d_M_line_248 : decode prog_14_method_30_code 248 = .ok (.iconst 0, 1) := by decide +kernel
theorem d_M_line_249 : decode prog_14_method_30_code 249 = .ok (.ireturn, 1) := by decide +kernel
theorem d_M_line_250 : decode prog_14_method_30_code 250 = .ok (.aload_n 0, 1) := by decide +kernel
theorem d_M_line_251 : decode prog_14_method_30_code 251 = .ok (.bipush 124, 2) := by decide +kernel
theorem d_M_line_253 : decode prog_14_method_30_code 253 = .ok (.invokevirtual 246, 3) := by decide +kernel
theorem d_M_line_256 : decode prog_14_method_30_code 256 = .ok (.istore_n 1, 1) := by decide +kernel
theorem d_M_line_257 : decode prog_14_method_30_code 257 = .ok (.iload_n 1, 1) := by decide +kernel
theorem d_M_line_258 : decode prog_14_method_30_code 258 = .ok (.iconst (-1), 1) := by decide +kernel
theorem d_M_line_259 : decode prog_14_method_30_code 259 = .ok (.if_icmp .ne 5, 3) := by decide +kernel
theorem d_M_line_262 : decode prog_14_method_30_code 262 = .ok (.iconst 0, 1) := by decide +kernel
theorem d_M_line_263 : decode prog_14_method_30_code 263 = .ok (.ireturn, 1) := by decide +kernel
theorem d_M_line_264 : decode prog_14_method_30_code 264 = .ok (.aload_n 0, 1) := by decide +kernel
theorem d_M_line_265 : decode prog_14_method_30_code 265 = .ok (.getfield 114, 3) := by decide +kernel
theorem d_M_line_268 : decode prog_14_method_30_code 268 = .ok (.aload_n 0, 1) := by decide +kernel
theorem d_M_line_269 : decode prog_14_method_30_code 269 = .ok (.getfield 252, 3) := by decide +kernel
theorem d_M_line_272 : decode prog_14_method_30_code 272 = .ok (.iload_n 1, 1) := by decide +kernel
theorem d_M_line_273 : decode prog_14_method_30_code 273 = .ok (.iastore, 1) := by decide +kernel
theorem d_M_line_274 : decode prog_14_method_30_code 274 = .ok (.aload_n 0, 1) := by decide +kernel
theorem d_M_line_275 : decode prog_14_method_30_code 275 = .ok (.dup, 1) := by decide +kernel
theorem d_M_line_276 : decode prog_14_method_30_code 276 = .ok (.getfield 252, 3) := by decide +kernel
theorem d_M_line_279 : decode prog_14_method_30_code 279 = .ok (.iconst 1, 1) := by decide +kernel
theorem d_M_line_280 : decode prog_14_method_30_code 280 = .ok (.iadd, 1) := by decide +kernel
theorem d_M_line_281 : decode prog_14_method_30_code 281 = .ok (.putfield 252, 3) := by decide +kernel
theorem d_M_line_284 : decode prog_14_method_30_code 284 = .ok (.iconst 1, 1) := by decide +kernel
theorem d_M_line_285 : decode prog_14_method_30_code 285 = .ok (.ireturn, 1) := by decide +kernel
theorem d_M_choice_0 : decode prog_14_method_31_code 0 = .ok (.aload_n 0, 1) := by decide +kernel
theorem d_M_choice_1 : decode prog_14_method_31_code 1 = .ok (.iconst 0, 1) := by decide +kernel
theorem d_M_choice_2 : decode prog_14_method_31_code 2 = .ok (.putfield 148, 3) := by decide +kernel
theorem d_M_choice_5 : decode prog_14_method_31_code 5 = .ok (.aload_n 0, 1) := by decide +kernel
theorem d_M_choice_6 : decode prog_14_method_31_code 6 = .ok (.aload_n 0, 1) := by decide +kernel
theorem d_M_choice_7 : decode prog_14_method_31_code 7 = .ok (.getfield 200, 3) := by decide +kernel
theorem d_M_choice_10 : decode prog_14_method_31_code 10 = .ok (.putfield 206, 3) := by decide +kernel
theorem d_M_choice_13 : decode prog_14_method_31_code 13 = .ok (.aload_n 0, 1) := by decide +kernel
theorem d_M_choice_14 : decode prog_14_method_31_code 14 = .ok (.iconst 0, 1) := by decide +kernel
theorem d_M_choice_15 : decode prog_14_method_31_code 15 = .ok (.putfield 200, 3) := by decide +kernel
theorem d_M_choice_18 : decode prog_14_method_31_code 18 = .ok (.aload_n 0, 1) := by decide +kernel
theorem d_M_choice_19 : decode prog_14_method_31_code 19 = .ok (.iload_n 1, 1) := by decide +kernel
theorem d_M_choice_20 : decode prog_14_method_31_code 20 = .ok (.invokevirtual 181, 3) := by decide +kernel
theorem d_M_choice_23 : decode prog_14_method_31_code 23 = .ok (.ifCond .ne 6, 3) := by decide +kernel
theorem d_M_choice_26 : decode prog_14_method_31_code 26 = .ok (.bipush (-100), 2) := by decide +kernel
theorem d_M_choice_28 : decode prog_14_method_31_code 28 = .ok (.ireturn, 1) := by decide +kernel
theorem d_M_choice_29 : decode prog_14_method_31_code 29 = .ok (.aload_n 0, 1) := by decide +kernel
theorem d_M_choice_30 : decode prog_14_method_31_code 30 = .ok (.iconst 0, 1) := by decide +kernel
theorem d_M_choice_31 : decode prog_14_method_31_code 31 = .ok (.putfield 203, 3) := by decide +kernel
theorem d_M_choice_34 : decode prog_14_method_31_code 34 = .ok (.aload_n 0, 1) := by decide +kernel
theorem d_M_choice_35 : decode prog_14_method_31_code 35 = .ok (.bipush 8, 2) := by decide +kernel
theorem d_M_choice_37 : decode prog_14_method_31_code 37 = .ok (.putfield 233, 3) := by decide +kernel
theorem d_M_choice_40 : decode prog_14_method_31_code 40 = .ok (.aload_n 0, 1) := by decide +kernel
theorem d_M_choice_41 : decode prog_14_method_31_code 41 = .ok (.iconst (-1), 1) := by decide +kernel
theorem d_M_choice_42 : decode prog_14_method_31_code 42 = .ok (.putfield 236, 3) := by decide +kernel
theorem d_M_choice_45 : decode prog_14_method_31_code 45 = .ok (.aload_n 0, 1) := by decide +kernel
theorem d_M_choice_46 : decode prog_14_method_31_code 46 = .ok (.iconst 0, 1) := by decide +kernel
theorem d_M_choice_47 : decode prog_14_method_31_code 47 = .ok (.putfield 224, 3) := by decide +kernel
theorem d_M_choice_50 : decode prog_14_method_31_code 50 = .ok (.aload_n 0, 1) := by decide +kernel
theorem d_M_choice_51 : decode prog_14_method_31_code 51 = .ok (.iconst 0, 1) := by decide +kernel
theorem d_M_choice_52 : decode prog_14_method_31_code 52 = .ok (.putfield 243, 3) := by decide +kernel
theorem d_M_choice_55 : decode prog_14_method_31_code 55 = .ok (.aload_n 0, 1) := by decide +kernel
theorem d_M_choice_56 : decode prog_14_method_31_code 56 = .ok (.iconst 0, 1) := by decide +kernel
theorem d_M_choice_57 : decode prog_14_method_31_code 57 = .ok (.putfield 249, 3) := by decide +kernel
theorem d_M_choice_60 : decode prog_14_method_31_code 60 = .ok (.aload_n 0, 1) := by decide +kernel
theorem d_M_choice_61 : decode prog_14_method_31_code 61 = .ok (.iconst 0, 1) := by decide +kernel
theorem d_M_choice_62 : decode prog_14_method_31_code 62 = .ok (.putfield 252, 3) := by decide +kernel
theorem d_M_choice_65 : decode prog_14_method_31_code 65 = .ok (.iconst 0, 1) := by decide +kernel
theorem d_M_choice_66 : decode prog_14_method_31_code 66 = .ok (.istore_n 2, 1) := by decide +kernel
theorem d_M_choice_67 : decode prog_14_method_31_code 67 = .ok (.aload_n 0, 1) := by decide +kernel
theorem d_M_choice_68 : decode prog_14_method_31_code 68 = .ok (.invokevirtual 255, 3) := by decide +kernel
theorem d_M_choice_71 : decode prog_14_method_31_code 71 = .ok (.ifCond .ne 10, 3) := by decide +kernel
theorem d_M_choice_74 : decode prog_14_method_31_code 74 = .ok (.iconst (-1), 1) := by decide +kernel
theorem d_M_choice_75 : decode prog_14_method_31_code 75 = .ok (.aload_n 0, 1) := by decide +kernel
theorem d_M_choice_76 : decode prog_14_method_31_code 76 = .ok (.getfield 203, 3) := by decide +kernel
theorem d_M_choice_79 : decode prog_14_method_31_code 79 = .ok (.isub, 1) := by decide +kernel
theorem d_M_choice_80 : decode prog_14_method_31_code 80 = .ok (.ireturn, 1) := by decide +kernel
theorem d_M_choice_81 : decode prog_14_method_31_code 81 = .ok (.iinc 2 1, 3) := by decide +kernel
theorem d_M_choice_84 : decode prog_14_method_31_code 84 = .ok (.aload_n 0, 1) := by decide +kernel
theorem d_M_choice_85 : decode prog_14_method_31_code 85 = .ok (.bipush 59, 2) := by decide +kernel
theorem d_M_choice_87 : decode prog_14_method_31_code 87 = .ok (.invokevirtual 227, 3) := by decide +kernel
theorem d_M_choice_90 : decode prog_14_method_31_code 90 = .ok (.ifCond .ne (-23), 3) := by decide +kernel
theorem d_M_choice_93 : decode prog_14_method_31_code 93 = .ok (.aload_n 0, 1) := by decide +kernel
theorem d_M_choice_94 : decode prog_14_method_31_code 94 = .ok (.getfield 203, 3) := by decide +kernel
theorem d_M_choice_97 : decode prog_14_method_31_code 97 = .ok (.aload_n 0, 1) := by decide +kernel
theorem d_M_choice_98 : decode prog_14_method_31_code 98 = .ok (.getfield 206, 3) := by decide +kernel
theorem d_M_choice_101 : decode prog_14_method_31_code 101 = .ok (.if_icmp .ge 10, 3) := by decide +kernel
theorem d_M_choice_104 : decode prog_14_method_31_code 104 = .ok (.iconst (-1), 1) := by decide +kernel
theorem d_M_choice_105 : decode prog_14_method_31_code 105 = .ok (.aload_n 0, 1) := by decide +kernel
theorem d_M_choice_106 : decode prog_14_method_31_code 106 = .ok (.getfield 203, 3) := by decide +kernel
theorem d_M_choice_109 : decode prog_14_method_31_code 109 = .ok (.isub, 1) := by decide +kernel
theorem d_M_choice_110 : decode prog_14_method_31_code 110 = .ok (.ireturn, 1) := by decide +kernel
theorem d_M_choice_111 : decode prog_14_method_31_code 111 = .ok (.aload_n 0, 1) := by decide +kernel
theorem d_M_choice_112 : decode prog_14_method_31_code 112 = .ok (.getfield 49, 3) := by decide +kernel
theorem d_M_choice_115 : decode prog_14_method_31_code 115 = .ok (.iload_n 1, 1) := by decide +kernel
theorem d_M_choice_116 : decode prog_14_method_31_code 116 = .ok (.iconst 1, 1) := by decide +kernel
theorem d_M_choice_117 : decode prog_14_method_31_code 117 = .ok (.bastore, 1) := by decide +kernel
theorem d_M_choice_118 : decode prog_14_method_31_code 118 = .ok (.aload_n 0, 1) := by decide +kernel
theorem d_M_choice_119 : decode prog_14_method_31_code 119 = .ok (.getfield 53, 3) := by decide +kernel
theorem d_M_choice_122 : decode prog_14_method_31_code 122 = .ok (.iload_n 1, 1) := by decide +kernel
theorem d_M_choice_123 : decode prog_14_method_31_code 123 = .ok (.aload_n 0, 1) := by decide +kernel
theorem d_M_choice_124 : decode prog_14_method_31_code 124 = .ok (.getfield 233, 3) := by decide +kernel
theorem d_M_choice_127 : decode prog_14_method_31_code 127 = .ok (.iastore, 1) := by decide +kernel
theorem d_M_choice_128 : decode prog_14_method_31_code 128 = .ok (.aload_n 0, 1) := by decide +kernel
theorem d_M_choice_129 : decode prog_14_method_31_code 129 = .ok (.getfield 56, 3) := by decide +kernel
theorem d_M_choice_132 : decode prog_14_method_31_code 132 = .ok (.iload_n 1, 1) := by decide +kernel
theorem d_M_choice_133 : decode prog_14_method_31_code 133 = .ok (.aload_n 0, 1) := by decide +kernel
theorem d_M_choice_134 : decode prog_14_method_31_code 134 = .ok (.getfield 236, 3) := by decide +kernel
theorem d_M_choice_137 : decode prog_14_method_31_code 137 = .ok (.iastore, 1) := by decide +kernel
theorem d_M_choice_138 : decode prog_14_method_31_code 138 = .ok (.aload_n 0, 1) := by decide +kernel
theorem d_M_choice_139 : decode prog_14_method_31_code 139 = .ok (.getfield 62, 3) := by decide +kernel
theorem d_M_choice_142 : decode prog_14_method_31_code 142 = .ok (.iload_n 1, 1) := by decide +kernel
theorem d_M_choice_143 : decode prog_14_method_31_code 143 = .ok (.aload_n 0, 1) := by decide +kernel
theorem d_M_choice_144 : decode prog_14_method_31_code 144 = .ok (.getfield 224, 3) := by decide +kernel
theorem d_M_choice_147 : decode prog_14_method_31_code 147 = .ok (.iastore, 1) := by decide +kernel
theorem d_M_choice_148 : decode prog_14_method_31_code 148 = .ok (.iconst 0, 1) := by decide +kernel
theorem d_M_choice_149 : decode prog_14_method_31_code 149 = .ok (.istore_n 3, 1) := by decide +kernel
theorem d_M_choice_150 : decode prog_14_method_31_code 150 = .ok (.iload_n 3, 1) := by decide +kernel
theorem d_M_choice_151 : decode prog_14_method_31_code 151 = .ok (.aload_n 0, 1) := by decide +kernel
theorem d_M_choice_152 : decode prog_14_method_31_code 152 = .ok (.getfield 224, 3) := by decide +kernel
theorem d_M_choice_155 : decode prog_14_method_31_code 155 = .ok (.if_icmp .ge 25, 3) := by decide +kernel
theorem d_M_choice_158 : decode prog_14_method_31_code 158 = .ok (.aload_n 0, 1) := by decide +kernel
theorem d_M_choice_159 : decode prog_14_method_31_code 159 = .ok (.getfield 59, 3) := by decide +kernel
theorem d_M_choice_162 : decode prog_14_method_31_code 162 = .ok (.iconst 5, 1) := by decide +kernel
theorem d_M_choice_163 : decode prog_14_method_31_code 163 = .ok (.iload_n 1, 1) := by decide +kernel
theorem d_M_choice_164 : decode prog_14_method_31_code 164 = .ok (.imul, 1) := by decide +kernel
theorem d_M_choice_165 : decode prog_14_method_31_code 165 = .ok (.iload_n 3, 1) := by decide +kernel
theorem d_M_choice_166 : decode prog_14_method_31_code 166 = .ok (.iadd, 1) := by decide +kernel
theorem d_M_choice_167 : decode prog_14_method_31_code 167 = .ok (.aload_n 0, 1) := by decide +kernel
theorem d_M_choice_168 : decode prog_14_method_31_code 168 = .ok (.getfield 102, 3) := by decide +kernel
theorem d_M_choice_171 : decode prog_14_method_31_code 171 = .ok (.iload_n 3, 1) := by decide +kernel
theorem d_M_choice_172 : decode prog_14_method_31_code 172 = .ok (.iaload, 1) := by decide +kernel
theorem d_M_choice_173 : decode prog_14_method_31_code 173 = .ok (.iastore, 1) := by decide +kernel
theorem d_M_choice_174 : decode prog_14_method_31_code 174 = .ok (.iinc 3 1, 3) := by decide +kernel
theorem d_M_choice_177 : decode prog_14_method_31_code 177 = .ok (.goto (-27), 3) := by decide +kernel
theorem d_M_choice_180 : decode prog_14_method_31_code 180 = .ok (.aload_n 0, 1) := by decide +kernel
theorem d_M_choice_181 : decode prog_14_method_31_code 181 = .ok (.getfield 71, 3) := by decide +kernel
theorem d_M_choice_184 : decode prog_14_method_31_code 184 = .ok (.iload_n 1, 1) := by decide +kernel
theorem d_M_choice_185 : decode prog_14_method_31_code 185 = .ok (.aload_n 0, 1) := by decide +kernel
theorem d_M_choice_186 : decode prog_14_method_31_code 186 = .ok (.getfield 243, 3) := by decide +kernel
theorem d_M_choice_189 : decode prog_14_method_31_code 189 = .ok (.iastore, 1) := by decide +kernel
theorem d_M_choice_190 : decode prog_14_method_31_code 190 = .ok (.aload_n 0, 1) := by decide +kernel
theorem d_M_choice_191 : decode prog_14_method_31_code 191 = .ok (.getfield 77, 3) := by decide +kernel
theorem d_M_choice_194 : decode prog_14_method_31_code 194 = .ok (.iload_n 1, 1) := by decide +kernel
theorem d_M_choice_195 : decode prog_14_method_31_code 195 = .ok (.aload_n 0, 1) := by decide +kernel
theorem d_M_choice_196 : decode prog_14_method_31_code 196 = .ok (.getfield 249, 3) := by decide +kernel
theorem d_M_choice_199 : decode prog_14_method_31_code 199 = .ok (.iastore, 1) := by decide +kernel
theorem d_M_choice_200 : decode prog_14_method_31_code 200 = .ok (.aload_n 0, 1) := by decide +kernel
theorem d_M_choice_201 : decode prog_14_method_31_code 201 = .ok (.getfield 83, 3) := by decide +kernel
theorem d_M_choice_204 : decode prog_14_method_31_code 204 = .ok (.iload_n 1, 1) := by decide +kernel
theorem d_M_choice_205 : decode prog_14_method_31_code 205 = .ok (.aload_n 0, 1) := by decide +kernel
theorem d_M_choice_206 : decode prog_14_method_31_code 206 = .ok (.getfield 252, 3) := by decide +kernel
theorem d_M_choice_209 : decode prog_14_method_31_code 209 = .ok (.iastore, 1) := by decide +kernel
theorem d_M_choice_210 : decode prog_14_method_31_code 210 = .ok (.iconst 0, 1) := by decide +kernel
theorem d_M_choice_211 : decode prog_14_method_31_code 211 = .ok (.istore_n 3, 1) := by decide +kernel
theorem d_M_choice_212 : decode prog_14_method_31_code 212 = .ok (.iload_n 3, 1) := by decide +kernel
theorem d_M_choice_213 : decode prog_14_method_31_code 213 = .ok (.bipush 30, 2) := by decide +kernel
theorem d_M_choice_215 : decode prog_14_method_31_code 215 = .ok (.if_icmp .ge 77, 3) := by decide +kernel
theorem d_M_choice_218 : decode prog_14_method_31_code 218 = .ok (.aload_n 0, 1) := by decide +kernel
theorem d_M_choice_219 : decode prog_14_method_31_code 219 = .ok (.getfield 65, 3) := by decide +kernel
theorem d_M_choice_222 : decode prog_14_method_31_code 222 = .ok (.bipush 30, 2) := by decide +kernel
theorem d_M_choice_224 : decode prog_14_method_31_code 224 = .ok (.iload_n 1, 1) := by decide +kernel
theorem d_M_choice_225 : decode prog_14_method_31_code 225 = .ok (.imul, 1) := by decide +kernel
theorem d_M_choice_226 : decode prog_14_method_31_code 226 = .ok (.iload_n 3, 1) := by decide +kernel
theorem d_M_choice_227 : decode prog_14_method_31_code 227 = .ok (.iadd, 1) := by decide +kernel
theorem d_M_choice_228 : decode prog_14_method_31_code 228 = .ok (.aload_n 0, 1) := by decide +kernel
theorem d_M_choice_229 : decode prog_14_method_31_code 229 = .ok (.getfield 105, 3) := by decide +kernel
theorem d_M_choice_232 : decode prog_14_method_31_code 232 = .ok (.iload_n 3, 1) := by decide +kernel
theorem d_M_choice_233 : decode prog_14_method_31_code 233 = .ok (.iaload, 1) := by decide +kernel
theorem d_M_choice_234 : decode prog_14_method_31_code 234 = .ok (.iastore, 1) := by decide +kernel
theorem d_M_choice_235 : decode prog_14_method_31_code 235 = .ok (.aload_n 0, 1) := by decide +kernel
theorem d_M_choice_236 : decode prog_14_method_31_code 236 = .ok (.getfield 68, 3) := by decide +kernel
theorem d_M_choice_239 : decode prog_14_method_31_code 239 = .ok (.bipush 30, 2) := by decide +kernel
theorem d_M_choice_241 : decode prog_14_method_31_code 241 = .ok (.iload_n 1, 1) := by decide +kernel
theorem d_M_choice_242 : decode prog_14_method_31_code 242 = .ok (.imul, 1) := by decide +kernel
theorem d_M_choice_243 : decode prog_14_method_31_code 243 = .ok (.iload_n 3, 1) := by decide +kernel
theorem d_M_choice_244 : decode prog_14_method_31_code 244 = .ok (.iadd, 1) := by decide +kernel
theorem d_M_choice_245 : decode prog_14_method_31_code 245 = .ok (.aload_n 0, 1) := by decide +kernel
theorem d_M_choice_246 : decode prog_14_method_31_code 246 = .ok (.getfield 108, 3) := by decide +kernel
theorem d_M_choice_249 : decode prog_14_method_31_code 249 = .ok (.iload_n 3, 1) := by decide +kernel
theorem d_M_choice_250 : decode prog_14_method_31_code 250 = .ok (.iaload, 1) := by decide +kernel
theorem d_M_choice_251 : decode prog_14_method_31_code 251 = .ok (.iastore, 1) := by decide +kernel
theorem d_M_choice_252 : decode prog_14_method_31_code 252 = .ok (.aload_n 0, 1) := by decide +kernel
theorem d_M_choice_253 : decode prog_14_method_31_code 253 = .ok (.getfield 74, 3) := by decide +kernel
theorem d_M_choice_256 : decode prog_14_method_31_code 256 = .ok (.bipush 30, 2) := by decide +kernel
theorem d_M_choice_258 : decode prog_14_method_31_code 258 = .ok (.iload_n 1, 1) := by decide +kernel
theorem d_M_choice_259 : decode prog_14_method_31_code 259 = .ok (.imul, 1) := by decide +kernel
theorem d_M_choice_260 : decode prog_14_method_31_code 260 = .ok (.iload_n 3, 1) := by decide +kernel
theorem d_M_choice_261 : decode prog_14_method_31_code 261 = .ok (.iadd, 1) := by decide +kernel
theorem d_M_choice_262 : decode prog_14_method_31_code 262 = .ok (.aload_n 0, 1) := by decide +kernel
theorem d_M_choice_263 : decode prog_14_method_31_code 263 = .ok (.getfield 111, 3) := by decide +kernel
theorem d_M_choice_266 : decode prog_14_method_31_code 266 = .ok (.iload_n 3, 1) := by decide +kernel
theorem d_M_choice_267 : decode prog_14_method_31_code 267 = .ok (.iaload, 1) := by decide +kernel
theorem d_M_choice_268 : decode prog_14_method_31_code 268 = .ok (.iastore, 1) := by decide +kernel
theorem d_M_choice_269 : decode prog_14_method_31_code 269 = .ok (.aload_n 0, 1) := by decide +kernel
theorem d_M_choice_270 : decode prog_14_method_31_code 270 = .ok (.getfield 80, 3) := by decide +kernel
theorem d_M_choice_273 : decode prog_14_method_31_code 273 = .ok (.bipush 30, 2) := by decide +kernel
theorem d_M_choice_275 : decode prog_14_method_31_code 275 = .ok (.iload_n 1, 1) := by decide +kernel
theorem d_M_choice_276 : decode prog_14_method_31_code 276 = .ok (.imul, 1) := by decide +kernel
theorem d_M_choice_277 : decode prog_14_method_31_code 277 = .ok (.iload_n 3, 1) := by decide +kernel
theorem d_M_choice_278 : decode prog_14_method_31_code 278 = .ok (.iadd, 1) := by decide +kernel
theorem d_M_choice_279 : decode prog_14_method_31_code 279 = .ok (.aload_n 0, 1) := by decide +kernel
theorem d_M_choice_280 : decode prog_14_method_31_code 280 = .ok (.getfield 114, 3) := by decide +kernel
theorem d_M_choice_283 : decode prog_14_method_31_code 283 = .ok (.iload_n 3, 1) := by decide +kernel
theorem d_M_choice_284 : decode prog_14_method_31_code 284 = .ok (.iaload, 1) := by decide +kernel
theorem d_M_choice_285 : decode prog_14_method_31_code 285 = .ok (.iastore, 1) := by decide +kernel
theorem d_M_choice_286 : decode prog_14_method_31_code 286 = .ok (.iinc 3 1, 3) := by decide +kernel
theorem d_M_choice_289 : decode prog_14_method_31_code 289 = .ok (.goto (-77), 3) := by decide +kernel
theorem d_M_choice_292 : decode prog_14_method_31_code 292 = .ok (.aload_n 0, 1) := by decide +kernel
theorem d_M_choice_293 : decode prog_14_method_31_code 293 = .ok (.iconst 0, 1) := by decide +kernel
theorem d_M_choice_294 : decode prog_14_method_31_code 294 = .ok (.putfield 173, 3) := by decide +kernel
theorem d_M_choice_297 : decode prog_14_method_31_code 297 = .ok (.iload_n 2, 1) := by decide +kernel
theorem d_M_choice_298 : decode prog_14_method_31_code 298 = .ok (.ireturn, 1) := by decide +kernel
theorem d_M_valueOf_0 : decode prog_14_method_32_code 0 = .ok (.iload_n 2, 1) := by decide +kernel
theorem d_M_valueOf_1 : decode prog_14_method_32_code 1 = .ok (.iconst 5, 1) := by decide +kernel
theorem d_M_valueOf_2 : decode prog_14_method_32_code 2 = .ok (.irem, 1) := by decide +kernel
theorem d_M_valueOf_3 : decode prog_14_method_32_code 3 = .ok (.tableswitch 62 0 3 #[29, 36, 43, 50], 29) := by decide +kernel
theorem d_M_valueOf_32 : decode prog_14_method_32_code 32 = .ok (.aload_n 0, 1) := by decide +kernel
theorem d_M_valueOf_33 : decode prog_14_method_32_code 33 = .ok (.getfield 19, 3) := by decide +kernel
theorem d_M_valueOf_36 : decode prog_14_method_32_code 36 = .ok (.iload_n 1, 1) := by decide +kernel
theorem d_M_valueOf_37 : decode prog_14_method_32_code 37 = .ok (.iaload, 1) := by decide +kernel
theorem d_M_valueOf_38 : decode prog_14_method_32_code 38 = .ok (.ireturn, 1) := by decide +kernel
theorem d_M_valueOf_39 : decode prog_14_method_32_code 39 = .ok (.aload_n 0, 1) := by decide +kernel
theorem d_M_valueOf_40 : decode prog_14_method_32_code 40 = .ok (.getfield 22, 3) := by decide +kernel
theorem d_M_valueOf_43 : decode prog_14_method_32_code 43 = .ok (.iload_n 1, 1) := by decide +kernel
theorem d_M_valueOf_44 : decode prog_14_method_32_code 44 = .ok (.iaload, 1) := by decide +kernel
theorem d_M_valueOf_45 : decode prog_14_method_32_code 45 = .ok (.ireturn, 1) := by decide +kernel
theorem d_M_valueOf_46 : decode prog_14_method_32_code 46 = .ok (.aload_n 0, 1) := by decide +kernel
theorem d_M_valueOf_47 : decode prog_14_method_32_code 47 = .ok (.getfield 25, 3) := by decide +kernel
theorem d_M_valueOf_50 : decode prog_14_method_32_code 50 = .ok (.iload_n 1, 1) := by decide +kernel
theorem d_M_valueOf_51 : decode prog_14_method_32_code 51 = .ok (.iaload, 1) := by decide +kernel
theorem d_M_valueOf_52 : decode prog_14_method_32_code 52 = .ok (.ireturn, 1) := by decide +kernel
theorem d_M_valueOf_53 : decode prog_14_method_32_code 53 = .ok (.aload_n 0, 1) := by decide +kernel
theorem d_M_valueOf_54 : decode prog_14_method_32_code 54 = .ok (.getfield 9, 3) := by decide +kernel
theorem d_M_valueOf_57 : decode prog_14_method_32_code 57 = .ok (.aload_n 0, 1) := by decide +kernel
theorem d_M_valueOf_58 : decode prog_14_method_32_code 58 = .ok (.getfield 13, 3) := by decide +kernel
theorem d_M_valueOf_61 : decode prog_14_method_32_code 61 = .ok (.iload_n 1, 1) := by decide +kernel
theorem d_M_valueOf_62 : decode prog_14_method_32_code 62 = .ok (.iaload, 1) := by decide +kernel
theorem d_M_valueOf_63 : decode prog_14_method_32_code 63 = .ok (.iaload, 1) := by decide +kernel
theorem d_M_valueOf_64 : decode prog_14_method_32_code 64 = .ok (.ireturn, 1) := by decide +kernel
theorem d_M_valueOf_65 : decode prog_14_method_32_code 65 = .ok (.aload_n 0, 1) := by decide +kernel
theorem d_M_valueOf_66 : decode prog_14_method_32_code 66 = .ok (.getfield 13, 3) := by decide +kernel
theorem d_M_valueOf_69 : decode prog_14_method_32_code 69 = .ok (.iload_n 1, 1) := by decide +kernel
theorem d_M_valueOf_70 : decode prog_14_method_32_code 70 = .ok (.iaload, 1) := by decide +kernel
theorem d_M_valueOf_71 : decode prog_14_method_32_code 71 = .ok (.ireturn, 1) := by decide +kernel
theorem d_M_isAhead_0 : decode prog_14_method_33_code 0 = .ok (.iconst 0, 1) := by decide +kernel
theorem d_M_isAhead_1 : decode prog_14_method_33_code 1 = .ok (.istore 4, 2) := by decide +kernel
theorem d_M_isAhead_3 : decode prog_14_method_33_code 3 = .ok (.iload 4, 2) := by decide +kernel
theorem d_M_isAhead_5 : decode prog_14_method_33_code 5 = .ok (.aload_n 0, 1) := by decide +kernel
theorem d_M_isAhead_6 : decode prog_14_method_33_code 6 = .ok (.getfield 62, 3) := by decide +kernel
theorem d_M_isAhead_9 : decode prog_14_method_33_code 9 = .ok (.iload_n 1, 1) := by decide +kernel
theorem d_M_isAhead_10 : decode prog_14_method_33_code 10 = .ok (.iaload, 1) := by decide +kernel
theorem d_M_isAhead_11 : decode prog_14_method_33_code 11 = .ok (.if_icmp .ge 74, 3) := by decide +kernel
theorem d_M_isAhead_14 : decode prog_14_method_33_code 14 = .ok (.aload_n 0, 1) := by decide +kernel
theorem d_M_isAhead_15 : decode prog_14_method_33_code 15 = .ok (.getfield 59, 3) := by decide +kernel
theorem d_M_isAhead_18 : decode prog_14_method_33_code 18 = .ok (.iconst 5, 1) := by decide +kernel
theorem d_M_isAhead_19 : decode prog_14_method_33_code 19 = .ok (.iload_n 1, 1) := by decide +kernel
theorem d_M_isAhead_20 : decode prog_14_method_33_code 20 = .ok (.imul, 1) := by decide +kernel
theorem d_M_isAhead_21 : decode prog_14_method_33_code 21 = .ok (.iload 4, 2) := by decide +kernel
theorem d_M_isAhead_23 : decode prog_14_method_33_code 23 = .ok (.iadd, 1) := by decide +kernel
theorem d_M_isAhead_24 : decode prog_14_method_33_code 24 = .ok (.iaload, 1) := by decide +kernel
theorem d_M_isAhead_25 : decode prog_14_method_33_code 25 = .ok (.istore 5, 2) := by decide +kernel
theorem d_M_isAhead_27 : decode prog_14_method_33_code 27 = .ok (.aload_n 0, 1) := by decide +kernel
theorem d_M_isAhead_28 : decode prog_14_method_33_code 28 = .ok (.iload_n 2, 1) := by decide +kernel
theorem d_M_isAhead_29 : decode prog_14_method_33_code 29 = .ok (.iload 5, 2) := by decide +kernel
theorem d_M_isAhead_31 : decode prog_14_method_33_code 31 = .ok (.invokevirtual 258, 3) := by decide +kernel
theorem d_M_isAhead_34 : decode prog_14_method_33_code 34 = .ok (.aload_n 0, 1) := by decide +kernel
theorem d_M_isAhead_35 : decode prog_14_method_33_code 35 = .ok (.iload_n 3, 1) := by decide +kernel
theorem d_M_isAhead_36 : decode prog_14_method_33_code 36 = .ok (.iload 5, 2) := by decide +kernel
theorem d_M_isAhead_38 : decode prog_14_method_33_code 38 = .ok (.invokevirtual 258, 3) := by decide +kernel
theorem d_M_isAhead_41 : decode prog_14_method_33_code 41 = .ok (.isub, 1) := by decide +kernel
theorem d_M_isAhead_42 : decode prog_14_method_33_code 42 = .ok (.istore 6, 2) := by decide +kernel
theorem d_M_isAhead_44 : decode prog_14_method_33_code 44 = .ok (.iload 6, 2) := by decide +kernel
theorem d_M_isAhead_46 : decode prog_14_method_33_code 46 = .ok (.ifCond .eq 33, 3) := by decide +kernel
theorem d_M_isAhead_49 : decode prog_14_method_33_code 49 = .ok (.iload 6, 2) := by decide +kernel
theorem d_M_isAhead_51 : decode prog_14_method_33_code 51 = .ok (.ifCond .le 7, 3) := by decide +kernel
theorem d_M_isAhead_54 : decode prog_14_method_33_code 54 = .ok (.iconst 1, 1) := by decide +kernel
theorem d_M_isAhead_55 : decode prog_14_method_33_code 55 = .ok (.goto 4, 3) := by decide +kernel
theorem d_M_isAhead_58 : decode prog_14_method_33_code 58 = .ok (.iconst 0, 1) := by decide +kernel
theorem d_M_isAhead_59 : decode prog_14_method_33_code 59 = .ok (.iload 5, 2) := by decide +kernel
theorem d_M_isAhead_61 : decode prog_14_method_33_code 61 = .ok (.iconst 5, 1) := by decide +kernel
theorem d_M_isAhead_62 : decode prog_14_method_33_code 62 = .ok (.if_icmp .ge 7, 3) := by decide +kernel
theorem d_M_isAhead_65 : decode prog_14_method_33_code 65 = .ok (.iconst 1, 1) := by decide +kernel
theorem d_M_isAhead_66 : decode prog_14_method_33_code 66 = .ok (.goto 4, 3) := by decide +kernel
theorem d_M_isAhead_69 : decode prog_14_method_33_code 69 = .ok (.iconst 0, 1) := by decide +kernel
theorem d_M_isAhead_70 : decode prog_14_method_33_code 70 = .ok (.if_icmp .ne 7, 3) := by decide +kernel
theorem d_M_isAhead_73 : decode prog_14_method_33_code 73 = .ok (.iconst 1, 1) := by decide +kernel
theorem d_M_isAhead_74 : decode prog_14_method_33_code 74 = .ok (.goto 4, 3) := by decide +kernel
theorem d_M_isAhead_77 : decode prog_14_method_33_code 77 = .ok (.iconst 0, 1) := by decide +kernel
theorem d_M_isAhead_78 : decode prog_14_method_33_code 78 = .ok (.ireturn, 1) := by decide +kernel
theorem d_M_isAhead_79 : decode prog_14_method_33_code 79 = .ok (.iinc 4 1, 3) := by decide +kernel
theorem d_M_isAhead_82 : decode prog_14_method_33_code 82 = .ok (.goto (-79), 3) := by decide +kernel
theorem d_M_isAhead_85 : decode prog_14_method_33_code 85 = .ok (.iload_n 2, 1) := by decide +kernel
theorem d_M_isAhead_86 : decode prog_14_method_33_code 86 = .ok (.iload_n 3, 1) := by decide +kernel
theorem d_M_isAhead_87 : decode prog_14_method_33_code 87 = .ok (.if_icmp .ge 7, 3) := by decide +kernel
theorem d_M_isAhead_90 : decode prog_14_method_33_code 90 = .ok (.iconst 1, 1) := by decide +kernel
theorem d_M_isAhead_91 : decode prog_14_method_33_code 91 = .ok (.goto 4, 3) := by decide +kernel
theorem d_M_isAhead_94 : decode prog_14_method_33_code 94 = .ok (.iconst 0, 1) := by decide +kernel
theorem d_M_isAhead_95 : decode prog_14_method_33_code 95 = .ok (.ireturn, 1) := by decide +kernel
theorem d_M_peopleOf_0 : decode prog_14_method_34_code 0 = .ok (.iconst 0, 1) := by decide +kernel
theorem d_M_peopleOf_1 : decode prog_14_method_34_code 1 = .ok (.istore_n 2, 1) := by decide +kernel
theorem d_M_peopleOf_2 : decode prog_14_method_34_code 2 = .ok (.iconst 0, 1) := by decide +kernel
theorem d_M_peopleOf_3 : decode prog_14_method_34_code 3 = .ok (.istore_n 3, 1) := by decide +kernel
theorem d_M_peopleOf_4 : decode prog_14_method_34_code 4 = .ok (.iload_n 3, 1) := by decide +kernel
theorem d_M_peopleOf_5 : decode prog_14_method_34_code 5 = .ok (.aload_n 0, 1) := by decide +kernel
theorem d_M_peopleOf_6 : decode prog_14_method_34_code 6 = .ok (.getfield 161, 3) := by decide +kernel
theorem d_M_peopleOf_9 : decode prog_14_method_34_code 9 = .ok (.if_icmp .ge 28, 3) := by decide +kernel
theorem d_M_peopleOf_12 : decode prog_14_method_34_code 12 = .ok (.iload_n 1, 1) := by decide +kernel
theorem d_M_peopleOf_13 : decode prog_14_method_34_code 13 = .ok (.iload_n 3, 1) := by decide +kernel
theorem d_M_peopleOf_14 : decode prog_14_method_34_code 14 = .ok (.invokestatic 262, 3) := by decide +kernel
theorem d_M_peopleOf_17 : decode prog_14_method_34_code 17 = .ok (.ifCond .eq 14, 3) := by decide +kernel
theorem d_M_peopleOf_20 : decode prog_14_method_34_code 20 = .ok (.iload_n 2, 1) := by decide +kernel
theorem d_M_peopleOf_21 : decode prog_14_method_34_code 21 = .ok (.iconst 1, 1) := by decide +kernel
theorem d_M_peopleOf_22 : decode prog_14_method_34_code 22 = .ok (.aload_n 0, 1) := by decide +kernel
theorem d_M_peopleOf_23 : decode prog_14_method_34_code 23 = .ok (.getfield 13, 3) := by decide +kernel
theorem d_M_peopleOf_26 : decode prog_14_method_34_code 26 = .ok (.iload_n 3, 1) := by decide +kernel
theorem d_M_peopleOf_27 : decode prog_14_method_34_code 27 = .ok (.iaload, 1) := by decide +kernel
theorem d_M_peopleOf_28 : decode prog_14_method_34_code 28 = .ok (.ishl, 1) := by decide +kernel
theorem d_M_peopleOf_29 : decode prog_14_method_34_code 29 = .ok (.ior, 1) := by decide +kernel
theorem d_M_peopleOf_30 : decode prog_14_method_34_code 30 = .ok (.istore_n 2, 1) := by decide +kernel
theorem d_M_peopleOf_31 : decode prog_14_method_34_code 31 = .ok (.iinc 3 1, 3) := by decide +kernel
theorem d_M_peopleOf_34 : decode prog_14_method_34_code 34 = .ok (.goto (-30), 3) := by decide +kernel
theorem d_M_peopleOf_37 : decode prog_14_method_34_code 37 = .ok (.iload_n 2, 1) := by decide +kernel
theorem d_M_peopleOf_38 : decode prog_14_method_34_code 38 = .ok (.ireturn, 1) := by decide +kernel
theorem d_M_payOf_0 : decode prog_14_method_35_code 0 = .ok (.iconst 0, 1) := by decide +kernel
theorem d_M_payOf_1 : decode prog_14_method_35_code 1 = .ok (.istore_n 2, 1) := by decide +kernel
theorem d_M_payOf_2 : decode prog_14_method_35_code 2 = .ok (.iconst 0, 1) := by decide +kernel
theorem d_M_payOf_3 : decode prog_14_method_35_code 3 = .ok (.istore_n 3, 1) := by decide +kernel
theorem d_M_payOf_4 : decode prog_14_method_35_code 4 = .ok (.iload_n 3, 1) := by decide +kernel
theorem d_M_payOf_5 : decode prog_14_method_35_code 5 = .ok (.aload_n 0, 1) := by decide +kernel
theorem d_M_payOf_6 : decode prog_14_method_35_code 6 = .ok (.getfield 161, 3) := by decide +kernel
theorem d_M_payOf_9 : decode prog_14_method_35_code 9 = .ok (.if_icmp .ge 30, 3) := by decide +kernel
theorem d_M_payOf_12 : decode prog_14_method_35_code 12 = .ok (.iload_n 2, 1) := by decide +kernel
theorem d_M_payOf_13 : decode prog_14_method_35_code 13 = .ok (.iload_n 1, 1) := by decide +kernel
theorem d_M_payOf_14 : decode prog_14_method_35_code 14 = .ok (.iload_n 3, 1) := by decide +kernel
theorem d_M_payOf_15 : decode prog_14_method_35_code 15 = .ok (.invokestatic 262, 3) := by decide +kernel
theorem d_M_payOf_18 : decode prog_14_method_35_code 18 = .ok (.ifCond .eq 12, 3) := by decide +kernel
theorem d_M_payOf_21 : decode prog_14_method_35_code 21 = .ok (.aload_n 0, 1) := by decide +kernel
theorem d_M_payOf_22 : decode prog_14_method_35_code 22 = .ok (.getfield 19, 3) := by decide +kernel
theorem d_M_payOf_25 : decode prog_14_method_35_code 25 = .ok (.iload_n 3, 1) := by decide +kernel
theorem d_M_payOf_26 : decode prog_14_method_35_code 26 = .ok (.iaload, 1) := by decide +kernel
theorem d_M_payOf_27 : decode prog_14_method_35_code 27 = .ok (.goto 4, 3) := by decide +kernel
theorem d_M_payOf_30 : decode prog_14_method_35_code 30 = .ok (.iconst 0, 1) := by decide +kernel
theorem d_M_payOf_31 : decode prog_14_method_35_code 31 = .ok (.iadd, 1) := by decide +kernel
theorem d_M_payOf_32 : decode prog_14_method_35_code 32 = .ok (.istore_n 2, 1) := by decide +kernel
theorem d_M_payOf_33 : decode prog_14_method_35_code 33 = .ok (.iinc 3 1, 3) := by decide +kernel
theorem d_M_payOf_36 : decode prog_14_method_35_code 36 = .ok (.goto (-32), 3) := by decide +kernel
theorem d_M_payOf_39 : decode prog_14_method_35_code 39 = .ok (.iload_n 2, 1) := by decide +kernel
theorem d_M_payOf_40 : decode prog_14_method_35_code 40 = .ok (.ireturn, 1) := by decide +kernel
theorem d_M_breach_0 : decode prog_14_method_36_code 0 = .ok (.aload_n 0, 1) := by decide +kernel
theorem d_M_breach_1 : decode prog_14_method_36_code 1 = .ok (.iload_n 2, 1) := by decide +kernel
theorem d_M_breach_2 : decode prog_14_method_36_code 2 = .ok (.invokevirtual 265, 3) := by decide +kernel
theorem d_M_breach_5 : decode prog_14_method_36_code 5 = .ok (.istore_n 3, 1) := by decide +kernel
theorem d_M_breach_6 : decode prog_14_method_36_code 6 = .ok (.iload_n 3, 1) := by decide +kernel
theorem d_M_breach_7 : decode prog_14_method_36_code 7 = .ok (.invokestatic 268, 3) := by decide +kernel
theorem d_M_breach_10 : decode prog_14_method_36_code 10 = .ok (.iload_n 2, 1) := by decide +kernel
theorem d_M_breach_11 : decode prog_14_method_36_code 11 = .ok (.invokestatic 268, 3) := by decide +kernel
theorem d_M_breach_14 : decode prog_14_method_36_code 14 = .ok (.if_icmp .eq 5, 3) := by decide +kernel
theorem d_M_breach_17 : decode prog_14_method_36_code 17 = .ok (.iconst 1, 1) := by decide +kernel
theorem d_M_breach_18 : decode prog_14_method_36_code 18 = .ok (.ireturn, 1) := by decide +kernel
theorem d_M_breach_19 : decode prog_14_method_36_code 19 = .ok (.iload_n 2, 1) := by decide +kernel
theorem d_M_breach_20 : decode prog_14_method_36_code 20 = .ok (.invokestatic 268, 3) := by decide +kernel
theorem d_M_breach_23 : decode prog_14_method_36_code 23 = .ok (.aload_n 0, 1) := by decide +kernel
theorem d_M_breach_24 : decode prog_14_method_36_code 24 = .ok (.getfield 53, 3) := by decide +kernel
theorem d_M_breach_27 : decode prog_14_method_36_code 27 = .ok (.iload_n 1, 1) := by decide +kernel
theorem d_M_breach_28 : decode prog_14_method_36_code 28 = .ok (.iaload, 1) := by decide +kernel
theorem d_M_breach_29 : decode prog_14_method_36_code 29 = .ok (.if_icmp .le 5, 3) := by decide +kernel
theorem d_M_breach_32 : decode prog_14_method_36_code 32 = .ok (.iconst 2, 1) := by decide +kernel
theorem d_M_breach_33 : decode prog_14_method_36_code 33 = .ok (.ireturn, 1) := by decide +kernel
theorem d_M_breach_34 : decode prog_14_method_36_code 34 = .ok (.aload_n 0, 1) := by decide +kernel
theorem d_M_breach_35 : decode prog_14_method_36_code 35 = .ok (.getfield 56, 3) := by decide +kernel
theorem d_M_breach_38 : decode prog_14_method_36_code 38 = .ok (.iload_n 1, 1) := by decide +kernel
theorem d_M_breach_39 : decode prog_14_method_36_code 39 = .ok (.iaload, 1) := by decide +kernel
theorem d_M_breach_40 : decode prog_14_method_36_code 40 = .ok (.iconst (-1), 1) := by decide +kernel
theorem d_M_breach_41 : decode prog_14_method_36_code 41 = .ok (.if_icmp .eq 19, 3) := by decide +kernel
theorem d_M_breach_44 : decode prog_14_method_36_code 44 = .ok (.aload_n 0, 1) := by decide +kernel
theorem d_M_breach_45 : decode prog_14_method_36_code 45 = .ok (.iload_n 2, 1) := by decide +kernel
theorem d_M_breach_46 : decode prog_14_method_36_code 46 = .ok (.invokevirtual 271, 3) := by decide +kernel
theorem d_M_breach_49 : decode prog_14_method_36_code 49 = .ok (.aload_n 0, 1) := by decide +kernel
theorem d_M_breach_50 : decode prog_14_method_36_code 50 = .ok (.getfield 56, 3) := by decide +kernel
theorem d_M_breach_53 : decode prog_14_method_36_code 53 = .ok (.iload_n 1, 1) := by decide +kernel
theorem d_M_breach_54 : decode prog_14_method_36_code 54 = .ok (.iaload, 1) := by decide +kernel
theorem d_M_breach_55 : decode prog_14_method_36_code 55 = .ok (.if_icmp .le 5, 3) := by decide +kernel
theorem d_M_breach_58 : decode prog_14_method_36_code 58 = .ok (.iconst 3, 1) := by decide +kernel
theorem d_M_breach_59 : decode prog_14_method_36_code 59 = .ok (.ireturn, 1) := by decide +kernel
theorem d_M_breach_60 : decode prog_14_method_36_code 60 = .ok (.iconst 0, 1) := by decide +kernel
theorem d_M_breach_61 : decode prog_14_method_36_code 61 = .ok (.istore 4, 2) := by decide +kernel
theorem d_M_breach_63 : decode prog_14_method_36_code 63 = .ok (.iload 4, 2) := by decide +kernel
theorem d_M_breach_65 : decode prog_14_method_36_code 65 = .ok (.aload_n 0, 1) := by decide +kernel
theorem d_M_breach_66 : decode prog_14_method_36_code 66 = .ok (.getfield 71, 3) := by decide +kernel
theorem d_M_breach_69 : decode prog_14_method_36_code 69 = .ok (.iload_n 1, 1) := by decide +kernel
theorem d_M_breach_70 : decode prog_14_method_36_code 70 = .ok (.iaload, 1) := by decide +kernel
theorem d_M_breach_71 : decode prog_14_method_36_code 71 = .ok (.if_icmp .ge 101, 3) := by decide +kernel
theorem d_M_breach_74 : decode prog_14_method_36_code 74 = .ok (.iconst 0, 1) := by decide +kernel
theorem d_M_breach_75 : decode prog_14_method_36_code 75 = .ok (.istore 5, 2) := by decide +kernel
theorem d_M_breach_77 : decode prog_14_method_36_code 77 = .ok (.iconst 0, 1) := by decide +kernel
theorem d_M_breach_78 : decode prog_14_method_36_code 78 = .ok (.istore 6, 2) := by decide +kernel
theorem d_M_breach_80 : decode prog_14_method_36_code 80 = .ok (.iload 6, 2) := by decide +kernel
theorem d_M_breach_82 : decode prog_14_method_36_code 82 = .ok (.aload_n 0, 1) := by decide +kernel
theorem d_M_breach_83 : decode prog_14_method_36_code 83 = .ok (.getfield 151, 3) := by decide +kernel
theorem d_M_breach_86 : decode prog_14_method_36_code 86 = .ok (.if_icmp .ge 50, 3) := by decide +kernel
theorem d_M_breach_89 : decode prog_14_method_36_code 89 = .ok (.iload 5, 2) := by decide +kernel
theorem d_M_breach_91 : decode prog_14_method_36_code 91 = .ok (.iload_n 3, 1) := by decide +kernel
theorem d_M_breach_92 : decode prog_14_method_36_code 92 = .ok (.iload 6, 2) := by decide +kernel
theorem d_M_breach_94 : decode prog_14_method_36_code 94 = .ok (.invokestatic 262, 3) := by decide +kernel
theorem d_M_breach_97 : decode prog_14_method_36_code 97 = .ok (.ifCond .eq 29, 3) := by decide +kernel
theorem d_M_breach_100 : decode prog_14_method_36_code 100 = .ok (.aload_n 0, 1) := by decide +kernel
theorem d_M_breach_101 : decode prog_14_method_36_code 101 = .ok (.getfield 9, 3) := by decide +kernel
theorem d_M_breach_104 : decode prog_14_method_36_code 104 = .ok (.iload 6, 2) := by decide +kernel
theorem d_M_breach_106 : decode prog_14_method_36_code 106 = .ok (.iaload, 1) := by decide +kernel
theorem d_M_breach_107 : decode prog_14_method_36_code 107 = .ok (.aload_n 0, 1) := by decide +kernel
theorem d_M_breach_108 : decode prog_14_method_36_code 108 = .ok (.getfield 65, 3) := by decide +kernel
theorem d_M_breach_111 : decode prog_14_method_36_code 111 = .ok (.bipush 30, 2) := by decide +kernel
theorem d_M_breach_113 : decode prog_14_method_36_code 113 = .ok (.iload_n 1, 1) := by decide +kernel
theorem d_M_breach_114 : decode prog_14_method_36_code 114 = .ok (.imul, 1) := by decide +kernel
theorem d_M_breach_115 : decode prog_14_method_36_code 115 = .ok (.iload 4, 2) := by decide +kernel
theorem d_M_breach_117 : decode prog_14_method_36_code 117 = .ok (.iadd, 1) := by decide +kernel
theorem d_M_breach_118 : decode prog_14_method_36_code 118 = .ok (.iaload, 1) := by decide +kernel
theorem d_M_breach_119 : decode prog_14_method_36_code 119 = .ok (.if_icmp .eq 7, 3) := by decide +kernel
theorem d_M_breach_122 : decode prog_14_method_36_code 122 = .ok (.iconst 1, 1) := by decide +kernel
theorem d_M_breach_123 : decode prog_14_method_36_code 123 = .ok (.goto 4, 3) := by decide +kernel
theorem d_M_breach_126 : decode prog_14_method_36_code 126 = .ok (.iconst 0, 1) := by decide +kernel
theorem d_M_breach_127 : decode prog_14_method_36_code 127 = .ok (.iadd, 1) := by decide +kernel
theorem d_M_breach_128 : decode prog_14_method_36_code 128 = .ok (.istore 5, 2) := by decide +kernel
theorem d_M_breach_130 : decode prog_14_method_36_code 130 = .ok (.iinc 6 1, 3) := by decide +kernel
theorem d_M_breach_133 : decode prog_14_method_36_code 133 = .ok (.goto (-53), 3) := by decide +kernel
theorem d_M_breach_136 : decode prog_14_method_36_code 136 = .ok (.iload 5, 2) := by decide +kernel
theorem d_M_breach_138 : decode prog_14_method_36_code 138 = .ok (.iconst 0, 1) := by decide +kernel
theorem d_M_breach_139 : decode prog_14_method_36_code 139 = .ok (.aload_n 0, 1) := by decide +kernel
theorem d_M_breach_140 : decode prog_14_method_36_code 140 = .ok (.getfield 53, 3) := by decide +kernel
theorem d_M_breach_143 : decode prog_14_method_36_code 143 = .ok (.iload_n 1, 1) := by decide +kernel
theorem d_M_breach_144 : decode prog_14_method_36_code 144 = .ok (.iaload, 1) := by decide +kernel
theorem d_M_breach_145 : decode prog_14_method_36_code 145 = .ok (.aload_n 0, 1) := by decide +kernel
theorem d_M_breach_146 : decode prog_14_method_36_code 146 = .ok (.getfield 68, 3) := by decide +kernel
theorem d_M_breach_149 : decode prog_14_method_36_code 149 = .ok (.bipush 30, 2) := by decide +kernel
theorem d_M_breach_151 : decode prog_14_method_36_code 151 = .ok (.iload_n 1, 1) := by decide +kernel
theorem d_M_breach_152 : decode prog_14_method_36_code 152 = .ok (.imul, 1) := by decide +kernel
theorem d_M_breach_153 : decode prog_14_method_36_code 153 = .ok (.iload 4, 2) := by decide +kernel
theorem d_M_breach_155 : decode prog_14_method_36_code 155 = .ok (.iadd, 1) := by decide +kernel
theorem d_M_breach_156 : decode prog_14_method_36_code 156 = .ok (.iaload, 1) := by decide +kernel
theorem d_M_breach_157 : decode prog_14_method_36_code 157 = .ok (.isub, 1) := by decide +kernel
theorem d_M_breach_158 : decode prog_14_method_36_code 158 = .ok (.invokestatic 274, 3) := by decide +kernel
theorem d_M_breach_161 : decode prog_14_method_36_code 161 = .ok (.if_icmp .le 5, 3) := by decide +kernel
theorem d_M_breach_164 : decode prog_14_method_36_code 164 = .ok (.iconst 4, 1) := by decide +kernel
theorem d_M_breach_165 : decode prog_14_method_36_code 165 = .ok (.ireturn, 1) := by decide +kernel
theorem d_M_breach_166 : decode prog_14_method_36_code 166 = .ok (.iinc 4 1, 3) := by decide +kernel
theorem d_M_breach_169 : decode prog_14_method_36_code 169 = .ok (.goto (-106), 3) := by decide +kernel
theorem d_M_breach_172 : decode prog_14_method_36_code 172 = .ok (.iconst 0, 1) := by decide +kernel
theorem d_M_breach_173 : decode prog_14_method_36_code 173 = .ok (.istore 4, 2) := by decide +kernel
theorem d_M_breach_175 : decode prog_14_method_36_code 175 = .ok (.iload 4, 2) := by decide +kernel
theorem d_M_breach_177 : decode prog_14_method_36_code 177 = .ok (.aload_n 0, 1) := by decide +kernel
theorem d_M_breach_178 : decode prog_14_method_36_code 178 = .ok (.getfield 83, 3) := by decide +kernel
theorem d_M_breach_181 : decode prog_14_method_36_code 181 = .ok (.iload_n 1, 1) := by decide +kernel
theorem d_M_breach_182 : decode prog_14_method_36_code 182 = .ok (.iaload, 1) := by decide +kernel
theorem d_M_breach_183 : decode prog_14_method_36_code 183 = .ok (.if_icmp .ge 40, 3) := by decide +kernel
theorem d_M_breach_186 : decode prog_14_method_36_code 186 = .ok (.iload_n 3, 1) := by decide +kernel
theorem d_M_breach_187 : decode prog_14_method_36_code 187 = .ok (.aload_n 0, 1) := by decide +kernel
theorem d_M_breach_188 : decode prog_14_method_36_code 188 = .ok (.getfield 80, 3) := by decide +kernel
theorem d_M_breach_191 : decode prog_14_method_36_code 191 = .ok (.bipush 30, 2) := by decide +kernel
theorem d_M_breach_193 : decode prog_14_method_36_code 193 = .ok (.iload_n 1, 1) := by decide +kernel
theorem d_M_breach_194 : decode prog_14_method_36_code 194 = .ok (.imul, 1) := by decide +kernel
theorem d_M_breach_195 : decode prog_14_method_36_code 195 = .ok (.iload 4, 2) := by decide +kernel
theorem d_M_breach_197 : decode prog_14_method_36_code 197 = .ok (.iadd, 1) := by decide +kernel
theorem d_M_breach_198 : decode prog_14_method_36_code 198 = .ok (.iaload, 1) := by decide +kernel
theorem d_M_breach_199 : decode prog_14_method_36_code 199 = .ok (.iand, 1) := by decide +kernel
theorem d_M_breach_200 : decode prog_14_method_36_code 200 = .ok (.aload_n 0, 1) := by decide +kernel
theorem d_M_breach_201 : decode prog_14_method_36_code 201 = .ok (.getfield 80, 3) := by decide +kernel
theorem d_M_breach_204 : decode prog_14_method_36_code 204 = .ok (.bipush 30, 2) := by decide +kernel
theorem d_M_breach_206 : decode prog_14_method_36_code 206 = .ok (.iload_n 1, 1) := by decide +kernel
theorem d_M_breach_207 : decode prog_14_method_36_code 207 = .ok (.imul, 1) := by decide +kernel
theorem d_M_breach_208 : decode prog_14_method_36_code 208 = .ok (.iload 4, 2) := by decide +kernel
theorem d_M_breach_210 : decode prog_14_method_36_code 210 = .ok (.iadd, 1) := by decide +kernel
theorem d_M_breach_211 : decode prog_14_method_36_code 211 = .ok (.iaload, 1) := by decide +kernel
theorem d_M_breach_212 : decode prog_14_method_36_code 212 = .ok (.if_icmp .ne 5, 3) := by decide +kernel
theorem d_M_breach_215 : decode prog_14_method_36_code 215 = .ok (.iconst 5, 1) := by decide +kernel
theorem d_M_breach_216 : decode prog_14_method_36_code 216 = .ok (.ireturn, 1) := by decide +kernel
theorem d_M_breach_217 : decode prog_14_method_36_code 217 = .ok (.iinc 4 1, 3) := by decide +kernel
theorem d_M_breach_220 : decode prog_14_method_36_code 220 = .ok (.goto (-45), 3) := by decide +kernel
theorem d_M_breach_223 : decode prog_14_method_36_code 223 = .ok (.iconst 0, 1) := by decide +kernel
theorem d_M_breach_224 : decode prog_14_method_36_code 224 = .ok (.ireturn, 1) := by decide +kernel
theorem d_M_isAllowed_0 : decode prog_14_method_37_code 0 = .ok (.iload_n 2, 1) := by decide +kernel
theorem d_M_isAllowed_1 : decode prog_14_method_37_code 1 = .ok (.ifCond .ne 5, 3) := by decide +kernel
theorem d_M_isAllowed_4 : decode prog_14_method_37_code 4 = .ok (.iconst 1, 1) := by decide +kernel
theorem d_M_isAllowed_5 : decode prog_14_method_37_code 5 = .ok (.ireturn, 1) := by decide +kernel
theorem d_M_isAllowed_6 : decode prog_14_method_37_code 6 = .ok (.aload_n 0, 1) := by decide +kernel
theorem d_M_isAllowed_7 : decode prog_14_method_37_code 7 = .ok (.getfield 49, 3) := by decide +kernel
theorem d_M_isAllowed_10 : decode prog_14_method_37_code 10 = .ok (.iload_n 1, 1) := by decide +kernel
theorem d_M_isAllowed_11 : decode prog_14_method_37_code 11 = .ok (.baload, 1) := by decide +kernel
theorem d_M_isAllowed_12 : decode prog_14_method_37_code 12 = .ok (.ifCond .eq 12, 3) := by decide +kernel
theorem d_M_isAllowed_15 : decode prog_14_method_37_code 15 = .ok (.aload_n 0, 1) := by decide +kernel
theorem d_M_isAllowed_16 : decode prog_14_method_37_code 16 = .ok (.iload_n 1, 1) := by decide +kernel
theorem d_M_isAllowed_17 : decode prog_14_method_37_code 17 = .ok (.iload_n 2, 1) := by decide +kernel
theorem d_M_isAllowed_18 : decode prog_14_method_37_code 18 = .ok (.invokevirtual 279, 3) := by decide +kernel
theorem d_M_isAllowed_21 : decode prog_14_method_37_code 21 = .ok (.ifCond .eq 5, 3) := by decide +kernel
theorem d_M_isAllowed_24 : decode prog_14_method_37_code 24 = .ok (.iconst 0, 1) := by decide +kernel
theorem d_M_isAllowed_25 : decode prog_14_method_37_code 25 = .ok (.ireturn, 1) := by decide +kernel
theorem d_M_isAllowed_26 : decode prog_14_method_37_code 26 = .ok (.aload_n 0, 1) := by decide +kernel
theorem d_M_isAllowed_27 : decode prog_14_method_37_code 27 = .ok (.iload_n 2, 1) := by decide +kernel
theorem d_M_isAllowed_28 : decode prog_14_method_37_code 28 = .ok (.invokevirtual 265, 3) := by decide +kernel
theorem d_M_isAllowed_31 : decode prog_14_method_37_code 31 = .ok (.istore_n 3, 1) := by decide +kernel
theorem d_M_isAllowed_32 : decode prog_14_method_37_code 32 = .ok (.iconst 0, 1) := by decide +kernel
theorem d_M_isAllowed_33 : decode prog_14_method_37_code 33 = .ok (.istore 4, 2) := by decide +kernel
theorem d_M_isAllowed_35 : decode prog_14_method_37_code 35 = .ok (.iload 4, 2) := by decide +kernel
theorem d_M_isAllowed_37 : decode prog_14_method_37_code 37 = .ok (.aload_n 0, 1) := by decide +kernel
theorem d_M_isAllowed_38 : decode prog_14_method_37_code 38 = .ok (.getfield 77, 3) := by decide +kernel
theorem d_M_isAllowed_41 : decode prog_14_method_37_code 41 = .ok (.iload_n 1, 1) := by decide +kernel
theorem d_M_isAllowed_42 : decode prog_14_method_37_code 42 = .ok (.iaload, 1) := by decide +kernel
theorem d_M_isAllowed_43 : decode prog_14_method_37_code 43 = .ok (.if_icmp .ge 49, 3) := by decide +kernel
theorem d_M_isAllowed_46 : decode prog_14_method_37_code 46 = .ok (.iload_n 3, 1) := by decide +kernel
theorem d_M_isAllowed_47 : decode prog_14_method_37_code 47 = .ok (.aload_n 0, 1) := by decide +kernel
theorem d_M_isAllowed_48 : decode prog_14_method_37_code 48 = .ok (.getfield 74, 3) := by decide +kernel
theorem d_M_isAllowed_51 : decode prog_14_method_37_code 51 = .ok (.bipush 30, 2) := by decide +kernel
theorem d_M_isAllowed_53 : decode prog_14_method_37_code 53 = .ok (.iload_n 1, 1) := by decide +kernel
theorem d_M_isAllowed_54 : decode prog_14_method_37_code 54 = .ok (.imul, 1) := by decide +kernel
theorem d_M_isAllowed_55 : decode prog_14_method_37_code 55 = .ok (.iload 4, 2) := by decide +kernel
theorem d_M_isAllowed_57 : decode prog_14_method_37_code 57 = .ok (.iadd, 1) := by decide +kernel
theorem d_M_isAllowed_58 : decode prog_14_method_37_code 58 = .ok (.iaload, 1) := by decide +kernel
theorem d_M_isAllowed_59 : decode prog_14_method_37_code 59 = .ok (.iand, 1) := by decide +kernel
theorem d_M_isAllowed_60 : decode prog_14_method_37_code 60 = .ok (.istore 5, 2) := by decide +kernel
theorem d_M_isAllowed_62 : decode prog_14_method_37_code 62 = .ok (.iload 5, 2) := by decide +kernel
theorem d_M_isAllowed_64 : decode prog_14_method_37_code 64 = .ok (.ifCond .eq 22, 3) := by decide +kernel
theorem d_M_isAllowed_67 : decode prog_14_method_37_code 67 = .ok (.iload 5, 2) := by decide +kernel
theorem d_M_isAllowed_69 : decode prog_14_method_37_code 69 = .ok (.aload_n 0, 1) := by decide +kernel
theorem d_M_isAllowed_70 : decode prog_14_method_37_code 70 = .ok (.getfield 74, 3) := by decide +kernel
theorem d_M_isAllowed_73 : decode prog_14_method_37_code 73 = .ok (.bipush 30, 2) := by decide +kernel
theorem d_M_isAllowed_75 : decode prog_14_method_37_code 75 = .ok (.iload_n 1, 1) := by decide +kernel
theorem d_M_isAllowed_76 : decode prog_14_method_37_code 76 = .ok (.imul, 1) := by decide +kernel
theorem d_M_isAllowed_77 : decode prog_14_method_37_code 77 = .ok (.iload 4, 2) := by decide +kernel
theorem d_M_isAllowed_79 : decode prog_14_method_37_code 79 = .ok (.iadd, 1) := by decide +kernel
theorem d_M_isAllowed_80 : decode prog_14_method_37_code 80 = .ok (.iaload, 1) := by decide +kernel
theorem d_M_isAllowed_81 : decode prog_14_method_37_code 81 = .ok (.if_icmp .eq 5, 3) := by decide +kernel
theorem d_M_isAllowed_84 : decode prog_14_method_37_code 84 = .ok (.iconst 0, 1) := by decide +kernel
theorem d_M_isAllowed_85 : decode prog_14_method_37_code 85 = .ok (.ireturn, 1) := by decide +kernel
theorem d_M_isAllowed_86 : decode prog_14_method_37_code 86 = .ok (.iinc 4 1, 3) := by decide +kernel
theorem d_M_isAllowed_89 : decode prog_14_method_37_code 89 = .ok (.goto (-54), 3) := by decide +kernel
theorem d_M_isAllowed_92 : decode prog_14_method_37_code 92 = .ok (.iconst 1, 1) := by decide +kernel
theorem d_M_isAllowed_93 : decode prog_14_method_37_code 93 = .ok (.ireturn, 1) := by decide +kernel
theorem d_M_spread_0 : decode prog_14_method_38_code 0 = .ok (.iconst 0, 1) := by decide +kernel
theorem d_M_spread_1 : decode prog_14_method_38_code 1 = .ok (.istore_n 3, 1) := by decide +kernel
theorem d_M_spread_2 : decode prog_14_method_38_code 2 = .ok (.iconst 0, 1) := by decide +kernel
theorem d_M_spread_3 : decode prog_14_method_38_code 3 = .ok (.istore 4, 2) := by decide +kernel
theorem d_M_spread_5 : decode prog_14_method_38_code 5 = .ok (.iload 4, 2) := by decide +kernel
theorem d_M_spread_7 : decode prog_14_method_38_code 7 = .ok (.aload_n 0, 1) := by decide +kernel
theorem d_M_spread_8 : decode prog_14_method_38_code 8 = .ok (.getfield 96, 3) := by decide +kernel
theorem d_M_spread_11 : decode prog_14_method_38_code 11 = .ok (.iload_n 1, 1) := by decide +kernel
theorem d_M_spread_12 : decode prog_14_method_38_code 12 = .ok (.iaload, 1) := by decide +kernel
theorem d_M_spread_13 : decode prog_14_method_38_code 13 = .ok (.if_icmp .ge 44, 3) := by decide +kernel
theorem d_M_spread_16 : decode prog_14_method_38_code 16 = .ok (.iload_n 2, 1) := by decide +kernel
theorem d_M_spread_17 : decode prog_14_method_38_code 17 = .ok (.aload_n 0, 1) := by decide +kernel
theorem d_M_spread_18 : decode prog_14_method_38_code 18 = .ok (.getfield 96, 3) := by decide +kernel
theorem d_M_spread_21 : decode prog_14_method_38_code 21 = .ok (.iload_n 1, 1) := by decide +kernel
theorem d_M_spread_22 : decode prog_14_method_38_code 22 = .ok (.iaload, 1) := by decide +kernel
theorem d_M_spread_23 : decode prog_14_method_38_code 23 = .ok (.iconst 1, 1) := by decide +kernel
theorem d_M_spread_24 : decode prog_14_method_38_code 24 = .ok (.isub, 1) := by decide +kernel
theorem d_M_spread_25 : decode prog_14_method_38_code 25 = .ok (.iload 4, 2) := by decide +kernel
theorem d_M_spread_27 : decode prog_14_method_38_code 27 = .ok (.isub, 1) := by decide +kernel
theorem d_M_spread_28 : decode prog_14_method_38_code 28 = .ok (.invokestatic 262, 3) := by decide +kernel
theorem d_M_spread_31 : decode prog_14_method_38_code 31 = .ok (.ifCond .eq 20, 3) := by decide +kernel
theorem d_M_spread_34 : decode prog_14_method_38_code 34 = .ok (.iload_n 3, 1) := by decide +kernel
theorem d_M_spread_35 : decode prog_14_method_38_code 35 = .ok (.iconst 1, 1) := by decide +kernel
theorem d_M_spread_36 : decode prog_14_method_38_code 36 = .ok (.aload_n 0, 1) := by decide +kernel
theorem d_M_spread_37 : decode prog_14_method_38_code 37 = .ok (.getfield 93, 3) := by decide +kernel
theorem d_M_spread_40 : decode prog_14_method_38_code 40 = .ok (.bipush 8, 2) := by decide +kernel
theorem d_M_spread_42 : decode prog_14_method_38_code 42 = .ok (.iload_n 1, 1) := by decide +kernel
theorem d_M_spread_43 : decode prog_14_method_38_code 43 = .ok (.imul, 1) := by decide +kernel
theorem d_M_spread_44 : decode prog_14_method_38_code 44 = .ok (.iload 4, 2) := by decide +kernel
theorem d_M_spread_46 : decode prog_14_method_38_code 46 = .ok (.iadd, 1) := by decide +kernel
theorem d_M_spread_47 : decode prog_14_method_38_code 47 = .ok (.iaload, 1) := by decide +kernel
theorem d_M_spread_48 : decode prog_14_method_38_code 48 = .ok (.ishl, 1) := by decide +kernel
theorem d_M_spread_49 : decode prog_14_method_38_code 49 = .ok (.ior, 1) := by decide +kernel
theorem d_M_spread_50 : decode prog_14_method_38_code 50 = .ok (.istore_n 3, 1) := by decide +kernel
theorem d_M_spread_51 : decode prog_14_method_38_code 51 = .ok (.iinc 4 1, 3) := by decide +kernel
theorem d_M_spread_54 : decode prog_14_method_38_code 54 = .ok (.goto (-49), 3) := by decide +kernel
theorem d_M_spread_57 : decode prog_14_method_38_code 57 = .ok (.iload_n 3, 1) := by decide +kernel
theorem d_M_spread_58 : decode prog_14_method_38_code 58 = .ok (.ireturn, 1) := by decide +kernel
theorem d_M_gather_0 : decode prog_14_method_39_code 0 = .ok (.iconst 0, 1) := by decide +kernel
theorem d_M_gather_1 : decode prog_14_method_39_code 1 = .ok (.istore_n 3, 1) := by decide +kernel
theorem d_M_gather_2 : decode prog_14_method_39_code 2 = .ok (.iconst 0, 1) := by decide +kernel
theorem d_M_gather_3 : decode prog_14_method_39_code 3 = .ok (.istore 4, 2) := by decide +kernel
theorem d_M_gather_5 : decode prog_14_method_39_code 5 = .ok (.iload 4, 2) := by decide +kernel
theorem d_M_gather_7 : decode prog_14_method_39_code 7 = .ok (.aload_n 0, 1) := by decide +kernel
theorem d_M_gather_8 : decode prog_14_method_39_code 8 = .ok (.getfield 96, 3) := by decide +kernel
theorem d_M_gather_11 : decode prog_14_method_39_code 11 = .ok (.iload_n 1, 1) := by decide +kernel
theorem d_M_gather_12 : decode prog_14_method_39_code 12 = .ok (.iaload, 1) := by decide +kernel
theorem d_M_gather_13 : decode prog_14_method_39_code 13 = .ok (.if_icmp .ge 44, 3) := by decide +kernel
theorem d_M_gather_16 : decode prog_14_method_39_code 16 = .ok (.iload_n 2, 1) := by decide +kernel
theorem d_M_gather_17 : decode prog_14_method_39_code 17 = .ok (.aload_n 0, 1) := by decide +kernel
theorem d_M_gather_18 : decode prog_14_method_39_code 18 = .ok (.getfield 93, 3) := by decide +kernel
theorem d_M_gather_21 : decode prog_14_method_39_code 21 = .ok (.bipush 8, 2) := by decide +kernel
theorem d_M_gather_23 : decode prog_14_method_39_code 23 = .ok (.iload_n 1, 1) := by decide +kernel
theorem d_M_gather_24 : decode prog_14_method_39_code 24 = .ok (.imul, 1) := by decide +kernel
theorem d_M_gather_25 : decode prog_14_method_39_code 25 = .ok (.iload 4, 2) := by decide +kernel
theorem d_M_gather_27 : decode prog_14_method_39_code 27 = .ok (.iadd, 1) := by decide +kernel
theorem d_M_gather_28 : decode prog_14_method_39_code 28 = .ok (.iaload, 1) := by decide +kernel
theorem d_M_gather_29 : decode prog_14_method_39_code 29 = .ok (.invokestatic 262, 3) := by decide +kernel
theorem d_M_gather_32 : decode prog_14_method_39_code 32 = .ok (.ifCond .eq 19, 3) := by decide +kernel
theorem d_M_gather_35 : decode prog_14_method_39_code 35 = .ok (.iload_n 3, 1) := by decide +kernel
theorem d_M_gather_36 : decode prog_14_method_39_code 36 = .ok (.iconst 1, 1) := by decide +kernel
theorem d_M_gather_37 : decode prog_14_method_39_code 37 = .ok (.aload_n 0, 1) := by decide +kernel
theorem d_M_gather_38 : decode prog_14_method_39_code 38 = .ok (.getfield 96, 3) := by decide +kernel
theorem d_M_gather_41 : decode prog_14_method_39_code 41 = .ok (.iload_n 1, 1) := by decide +kernel
theorem d_M_gather_42 : decode prog_14_method_39_code 42 = .ok (.iaload, 1) := by decide +kernel
theorem d_M_gather_43 : decode prog_14_method_39_code 43 = .ok (.iconst 1, 1) := by decide +kernel
theorem d_M_gather_44 : decode prog_14_method_39_code 44 = .ok (.isub, 1) := by decide +kernel
theorem d_M_gather_45 : decode prog_14_method_39_code 45 = .ok (.iload 4, 2) := by decide +kernel
theorem d_M_gather_47 : decode prog_14_method_39_code 47 = .ok (.isub, 1) := by decide +kernel
theorem d_M_gather_48 : decode prog_14_method_39_code 48 = .ok (.ishl, 1) := by decide +kernel
theorem d_M_gather_49 : decode prog_14_method_39_code 49 = .ok (.ior, 1) := by decide +kernel
theorem d_M_gather_50 : decode prog_14_method_39_code 50 = .ok (.istore_n 3, 1) := by decide +kernel
theorem d_M_gather_51 : decode prog_14_method_39_code 51 = .ok (.iinc 4 1, 3) := by decide +kernel
theorem d_M_gather_54 : decode prog_14_method_39_code 54 = .ok (.goto (-49), 3) := by decide +kernel
theorem d_M_gather_57 : decode prog_14_method_39_code 57 = .ok (.iload_n 3, 1) := by decide +kernel
theorem d_M_gather_58 : decode prog_14_method_39_code 58 = .ok (.ireturn, 1) := by decide +kernel
theorem d_M_make1_0 : decode prog_14_method_40_code 0 = .ok (.iconst 0, 1) := by decide +kernel
theorem d_M_make1_1 : decode prog_14_method_40_code 1 = .ok (.istore_n 2, 1) := by decide +kernel
theorem d_M_make1_2 : decode prog_14_method_40_code 2 = .ok (.iconst 0, 1) := by decide +kernel
theorem d_M_make1_3 : decode prog_14_method_40_code 3 = .ok (.istore_n 3, 1) := by decide +kernel
theorem d_M_make1_4 : decode prog_14_method_40_code 4 = .ok (.iload_n 3, 1) := by decide +kernel
theorem d_M_make1_5 : decode prog_14_method_40_code 5 = .ok (.aload_n 0, 1) := by decide +kernel
theorem d_M_make1_6 : decode prog_14_method_40_code 6 = .ok (.getfield 161, 3) := by decide +kernel
theorem d_M_make1_9 : decode prog_14_method_40_code 9 = .ok (.if_icmp .ge 101, 3) := by decide +kernel
theorem d_M_make1_12 : decode prog_14_method_40_code 12 = .ok (.aload_n 0, 1) := by decide +kernel
theorem d_M_make1_13 : decode prog_14_method_40_code 13 = .ok (.getfield 16, 3) := by decide +kernel
theorem d_M_make1_16 : decode prog_14_method_40_code 16 = .ok (.iload_n 3, 1) := by decide +kernel
theorem d_M_make1_17 : decode prog_14_method_40_code 17 = .ok (.iaload, 1) := by decide +kernel
theorem d_M_make1_18 : decode prog_14_method_40_code 18 = .ok (.iload_n 1, 1) := by decide +kernel
theorem d_M_make1_19 : decode prog_14_method_40_code 19 = .ok (.if_icmp .eq 6, 3) := by decide +kernel
theorem d_M_make1_22 : decode prog_14_method_40_code 22 = .ok (.goto 82, 3) := by decide +kernel
theorem d_M_make1_25 : decode prog_14_method_40_code 25 = .ok (.iload_n 2, 1) := by decide +kernel
theorem d_M_make1_26 : decode prog_14_method_40_code 26 = .ok (.istore 4, 2) := by decide +kernel
theorem d_M_make1_28 : decode prog_14_method_40_code 28 = .ok (.iinc 2 1, 3) := by decide +kernel
theorem d_M_make1_31 : decode prog_14_method_40_code 31 = .ok (.iload 4, 2) := by decide +kernel
theorem d_M_make1_33 : decode prog_14_method_40_code 33 = .ok (.ifCond .le 58, 3) := by decide +kernel
theorem d_M_make1_36 : decode prog_14_method_40_code 36 = .ok (.aload_n 0, 1) := by decide +kernel
theorem d_M_make1_37 : decode prog_14_method_40_code 37 = .ok (.iload_n 1, 1) := by decide +kernel
theorem d_M_make1_38 : decode prog_14_method_40_code 38 = .ok (.iload_n 3, 1) := by decide +kernel
theorem d_M_make1_39 : decode prog_14_method_40_code 39 = .ok (.aload_n 0, 1) := by decide +kernel
theorem d_M_make1_40 : decode prog_14_method_40_code 40 = .ok (.getfield 93, 3) := by decide +kernel
theorem d_M_make1_43 : decode prog_14_method_40_code 43 = .ok (.bipush 8, 2) := by decide +kernel
theorem d_M_make1_45 : decode prog_14_method_40_code 45 = .ok (.iload_n 1, 1) := by decide +kernel
theorem d_M_make1_46 : decode prog_14_method_40_code 46 = .ok (.imul, 1) := by decide +kernel
theorem d_M_make1_47 : decode prog_14_method_40_code 47 = .ok (.iload 4, 2) := by decide +kernel
theorem d_M_make1_49 : decode prog_14_method_40_code 49 = .ok (.iadd, 1) := by decide +kernel
theorem d_M_make1_50 : decode prog_14_method_40_code 50 = .ok (.iconst 1, 1) := by decide +kernel
theorem d_M_make1_51 : decode prog_14_method_40_code 51 = .ok (.isub, 1) := by decide +kernel
theorem d_M_make1_52 : decode prog_14_method_40_code 52 = .ok (.iaload, 1) := by decide +kernel
theorem d_M_make1_53 : decode prog_14_method_40_code 53 = .ok (.invokevirtual 282, 3) := by decide +kernel
theorem d_M_make1_56 : decode prog_14_method_40_code 56 = .ok (.ifCond .eq 35, 3) := by decide +kernel
theorem d_M_make1_59 : decode prog_14_method_40_code 59 = .ok (.aload_n 0, 1) := by decide +kernel
theorem d_M_make1_60 : decode prog_14_method_40_code 60 = .ok (.getfield 93, 3) := by decide +kernel
theorem d_M_make1_63 : decode prog_14_method_40_code 63 = .ok (.bipush 8, 2) := by decide +kernel
theorem d_M_make1_65 : decode prog_14_method_40_code 65 = .ok (.iload_n 1, 1) := by decide +kernel
theorem d_M_make1_66 : decode prog_14_method_40_code 66 = .ok (.imul, 1) := by decide +kernel
theorem d_M_make1_67 : decode prog_14_method_40_code 67 = .ok (.iload 4, 2) := by decide +kernel
theorem d_M_make1_69 : decode prog_14_method_40_code 69 = .ok (.iadd, 1) := by decide +kernel
theorem d_M_make1_70 : decode prog_14_method_40_code 70 = .ok (.aload_n 0, 1) := by decide +kernel
theorem d_M_make1_71 : decode prog_14_method_40_code 71 = .ok (.getfield 93, 3) := by decide +kernel
theorem d_M_make1_74 : decode prog_14_method_40_code 74 = .ok (.bipush 8, 2) := by decide +kernel
theorem d_M_make1_76 : decode prog_14_method_40_code 76 = .ok (.iload_n 1, 1) := by decide +kernel
theorem d_M_make1_77 : decode prog_14_method_40_code 77 = .ok (.imul, 1) := by decide +kernel
theorem d_M_make1_78 : decode prog_14_method_40_code 78 = .ok (.iload 4, 2) := by decide +kernel
theorem d_M_make1_80 : decode prog_14_method_40_code 80 = .ok (.iadd, 1) := by decide +kernel
theorem d_M_make1_81 : decode prog_14_method_40_code 81 = .ok (.iconst 1, 1) := by decide +kernel
theorem d_M_make1_82 : decode prog_14_method_40_code 82 = .ok (.isub, 1) := by decide +kernel
theorem d_M_make1_83 : decode prog_14_method_40_code 83 = .ok (.iaload, 1) := by decide +kernel
theorem d_M_make1_84 : decode prog_14_method_40_code 84 = .ok (.iastore, 1) := by decide +kernel
theorem d_M_make1_85 : decode prog_14_method_40_code 85 = .ok (.iinc 4 (-1), 3) := by decide +kernel
theorem d_M_make1_88 : decode prog_14_method_40_code 88 = .ok (.goto (-57), 3) := by decide +kernel
theorem d_M_make1_91 : decode prog_14_method_40_code 91 = .ok (.aload_n 0, 1) := by decide +kernel
theorem d_M_make1_92 : decode prog_14_method_40_code 92 = .ok (.getfield 93, 3) := by decide +kernel
theorem d_M_make1_95 : decode prog_14_method_40_code 95 = .ok (.bipush 8, 2) := by decide +kernel
theorem d_M_make1_97 : decode prog_14_method_40_code 97 = .ok (.iload_n 1, 1) := by decide +kernel
theorem d_M_make1_98 : decode prog_14_method_40_code 98 = .ok (.imul, 1) := by decide +kernel
theorem d_M_make1_99 : decode prog_14_method_40_code 99 = .ok (.iload 4, 2) := by decide +kernel
theorem d_M_make1_101 : decode prog_14_method_40_code 101 = .ok (.iadd, 1) := by decide +kernel
theorem d_M_make1_102 : decode prog_14_method_40_code 102 = .ok (.iload_n 3, 1) := by decide +kernel
theorem d_M_make1_103 : decode prog_14_method_40_code 103 = .ok (.iastore, 1) := by decide +kernel
theorem d_M_make1_104 : decode prog_14_method_40_code 104 = .ok (.iinc 3 1, 3) := by decide +kernel
theorem d_M_make1_107 : decode prog_14_method_40_code 107 = .ok (.goto (-103), 3) := by decide +kernel
theorem d_M_make1_110 : decode prog_14_method_40_code 110 = .ok (.aload_n 0, 1) := by decide +kernel
theorem d_M_make1_111 : decode prog_14_method_40_code 111 = .ok (.getfield 96, 3) := by decide +kernel
theorem d_M_make1_114 : decode prog_14_method_40_code 114 = .ok (.iload_n 1, 1) := by decide +kernel
theorem d_M_make1_115 : decode prog_14_method_40_code 115 = .ok (.iload_n 2, 1) := by decide +kernel
theorem d_M_make1_116 : decode prog_14_method_40_code 116 = .ok (.iastore, 1) := by decide +kernel
theorem d_M_make1_117 : decode prog_14_method_40_code 117 = .ok (.iconst 0, 1) := by decide +kernel
theorem d_M_make1_118 : decode prog_14_method_40_code 118 = .ok (.istore_n 3, 1) := by decide +kernel
theorem d_M_make1_119 : decode prog_14_method_40_code 119 = .ok (.iload_n 3, 1) := by decide +kernel
theorem d_M_make1_120 : decode prog_14_method_40_code 120 = .ok (.iconst 1, 1) := by decide +kernel
theorem d_M_make1_121 : decode prog_14_method_40_code 121 = .ok (.iload_n 2, 1) := by decide +kernel
theorem d_M_make1_122 : decode prog_14_method_40_code 122 = .ok (.ishl, 1) := by decide +kernel
theorem d_M_make1_123 : decode prog_14_method_40_code 123 = .ok (.if_icmp .ge 26, 3) := by decide +kernel
theorem d_M_make1_126 : decode prog_14_method_40_code 126 = .ok (.aload_n 0, 1) := by decide +kernel
theorem d_M_make1_127 : decode prog_14_method_40_code 127 = .ok (.getfield 117, 3) := by decide +kernel
theorem d_M_make1_130 : decode prog_14_method_40_code 130 = .ok (.iload_n 3, 1) := by decide +kernel
theorem d_M_make1_131 : decode prog_14_method_40_code 131 = .ok (.aload_n 0, 1) := by decide +kernel
theorem d_M_make1_132 : decode prog_14_method_40_code 132 = .ok (.iload_n 1, 1) := by decide +kernel
theorem d_M_make1_133 : decode prog_14_method_40_code 133 = .ok (.aload_n 0, 1) := by decide +kernel
theorem d_M_make1_134 : decode prog_14_method_40_code 134 = .ok (.iload_n 1, 1) := by decide +kernel
theorem d_M_make1_135 : decode prog_14_method_40_code 135 = .ok (.iload_n 3, 1) := by decide +kernel
theorem d_M_make1_136 : decode prog_14_method_40_code 136 = .ok (.invokevirtual 285, 3) := by decide +kernel
theorem d_M_make1_139 : decode prog_14_method_40_code 139 = .ok (.invokevirtual 288, 3) := by decide +kernel
theorem d_M_make1_142 : decode prog_14_method_40_code 142 = .ok (.bastore, 1) := by decide +kernel
theorem d_M_make1_143 : decode prog_14_method_40_code 143 = .ok (.iinc 3 1, 3) := by decide +kernel
theorem d_M_make1_146 : decode prog_14_method_40_code 146 = .ok (.goto (-27), 3) := by decide +kernel
theorem d_M_make1_149 : decode prog_14_method_40_code 149 = .ok (.iconst 0, 1) := by decide +kernel
theorem d_M_make1_150 : decode prog_14_method_40_code 150 = .ok (.istore_n 3, 1) := by decide +kernel
theorem d_M_make1_151 : decode prog_14_method_40_code 151 = .ok (.iload_n 3, 1) := by decide +kernel
theorem d_M_make1_152 : decode prog_14_method_40_code 152 = .ok (.iconst 1, 1) := by decide +kernel
theorem d_M_make1_153 : decode prog_14_method_40_code 153 = .ok (.iload_n 2, 1) := by decide +kernel
theorem d_M_make1_154 : decode prog_14_method_40_code 154 = .ok (.ishl, 1) := by decide +kernel
theorem d_M_make1_155 : decode prog_14_method_40_code 155 = .ok (.if_icmp .ge 51, 3) := by decide +kernel
theorem d_M_make1_158 : decode prog_14_method_40_code 158 = .ok (.iload_n 3, 1) := by decide +kernel
theorem d_M_make1_159 : decode prog_14_method_40_code 159 = .ok (.istore 4, 2) := by decide +kernel
theorem d_M_make1_161 : decode prog_14_method_40_code 161 = .ok (.aload_n 0, 1) := by decide +kernel
theorem d_M_make1_162 : decode prog_14_method_40_code 162 = .ok (.getfield 117, 3) := by decide +kernel
theorem d_M_make1_165 : decode prog_14_method_40_code 165 = .ok (.iload 4, 2) := by decide +kernel
theorem d_M_make1_167 : decode prog_14_method_40_code 167 = .ok (.baload, 1) := by decide +kernel
theorem d_M_make1_168 : decode prog_14_method_40_code 168 = .ok (.ifCond .ne 14, 3) := by decide +kernel
theorem d_M_make1_171 : decode prog_14_method_40_code 171 = .ok (.iload 4, 2) := by decide +kernel
theorem d_M_make1_173 : decode prog_14_method_40_code 173 = .ok (.iconst 1, 1) := by decide +kernel
theorem d_M_make1_174 : decode prog_14_method_40_code 174 = .ok (.isub, 1) := by decide +kernel
theorem d_M_make1_175 : decode prog_14_method_40_code 175 = .ok (.iload_n 3, 1) := by decide +kernel
theorem d_M_make1_176 : decode prog_14_method_40_code 176 = .ok (.iand, 1) := by decide +kernel
theorem d_M_make1_177 : decode prog_14_method_40_code 177 = .ok (.istore 4, 2) := by decide +kernel
theorem d_M_make1_179 : decode prog_14_method_40_code 179 = .ok (.goto (-18), 3) := by decide +kernel
theorem d_M_make1_182 : decode prog_14_method_40_code 182 = .ok (.aload_n 0, 1) := by decide +kernel
theorem d_M_make1_183 : decode prog_14_method_40_code 183 = .ok (.getfield 99, 3) := by decide +kernel
theorem d_M_make1_186 : decode prog_14_method_40_code 186 = .ok (.iload_n 1, 1) := by decide +kernel
theorem d_M_make1_187 : decode prog_14_method_40_code 187 = .ok (.bipush 8, 2) := by decide +kernel
theorem d_M_make1_189 : decode prog_14_method_40_code 189 = .ok (.ishl, 1) := by decide +kernel
theorem d_M_make1_190 : decode prog_14_method_40_code 190 = .ok (.iload_n 3, 1) := by decide +kernel
theorem d_M_make1_191 : decode prog_14_method_40_code 191 = .ok (.iadd, 1) := by decide +kernel
theorem d_M_make1_192 : decode prog_14_method_40_code 192 = .ok (.aload_n 0, 1) := by decide +kernel
theorem d_M_make1_193 : decode prog_14_method_40_code 193 = .ok (.iload_n 1, 1) := by decide +kernel
theorem d_M_make1_194 : decode prog_14_method_40_code 194 = .ok (.iload 4, 2) := by decide +kernel
theorem d_M_make1_196 : decode prog_14_method_40_code 196 = .ok (.invokevirtual 285, 3) := by decide +kernel
theorem d_M_make1_199 : decode prog_14_method_40_code 199 = .ok (.iastore, 1) := by decide +kernel
theorem d_M_make1_200 : decode prog_14_method_40_code 200 = .ok (.iinc 3 1, 3) := by decide +kernel
theorem d_M_make1_203 : decode prog_14_method_40_code 203 = .ok (.goto (-52), 3) := by decide +kernel
theorem d_M_make1_206 : decode prog_14_method_40_code 206 = .ok (.return_, 1) := by decide +kernel
theorem d_M_make_0 : decode prog_14_method_41_code 0 = .ok (.aload_n 0, 1) := by decide +kernel
theorem d_M_make_1 : decode prog_14_method_41_code 1 = .ok (.getfield 173, 3) := by decide +kernel
theorem d_M_make_4 : decode prog_14_method_41_code 4 = .ok (.ifCond .eq 4, 3) := by decide +kernel
theorem d_M_make_7 : decode prog_14_method_41_code 7 = .ok (.return_, 1) := by decide +kernel
theorem d_M_make_8 : decode prog_14_method_41_code 8 = .ok (.aload_n 0, 1) := by decide +kernel
theorem d_M_make_9 : decode prog_14_method_41_code 9 = .ok (.iconst 1, 1) := by decide +kernel
theorem d_M_make_10 : decode prog_14_method_41_code 10 = .ok (.putfield 173, 3) := by decide +kernel
theorem d_M_make_13 : decode prog_14_method_41_code 13 = .ok (.iconst 0, 1) := by decide +kernel
theorem d_M_make_14 : decode prog_14_method_41_code 14 = .ok (.istore_n 1, 1) := by decide +kernel
theorem d_M_make_15 : decode prog_14_method_41_code 15 = .ok (.iload_n 1, 1) := by decide +kernel
theorem d_M_make_16 : decode prog_14_method_41_code 16 = .ok (.aload_n 0, 1) := by decide +kernel
theorem d_M_make_17 : decode prog_14_method_41_code 17 = .ok (.getfield 158, 3) := by decide +kernel
theorem d_M_make_20 : decode prog_14_method_41_code 20 = .ok (.if_icmp .ge 14, 3) := by decide +kernel
theorem d_M_make_23 : decode prog_14_method_41_code 23 = .ok (.aload_n 0, 1) := by decide +kernel
theorem d_M_make_24 : decode prog_14_method_41_code 24 = .ok (.iload_n 1, 1) := by decide +kernel
theorem d_M_make_25 : decode prog_14_method_41_code 25 = .ok (.invokevirtual 291, 3) := by decide +kernel
theorem d_M_make_28 : decode prog_14_method_41_code 28 = .ok (.iinc 1 1, 3) := by decide +kernel
theorem d_M_make_31 : decode prog_14_method_41_code 31 = .ok (.goto (-16), 3) := by decide +kernel
theorem d_M_make_34 : decode prog_14_method_41_code 34 = .ok (.return_, 1) := by decide +kernel
theorem d_M_takeOf_0 : decode prog_14_method_42_code 0 = .ok (.aload_n 0, 1) := by decide +kernel
theorem d_M_takeOf_1 : decode prog_14_method_42_code 1 = .ok (.invokevirtual 295, 3) := by decide +kernel
theorem d_M_takeOf_4 : decode prog_14_method_42_code 4 = .ok (.aload_n 0, 1) := by decide +kernel
theorem d_M_takeOf_5 : decode prog_14_method_42_code 5 = .ok (.getfield 99, 3) := by decide +kernel
theorem d_M_takeOf_8 : decode prog_14_method_42_code 8 = .ok (.iload_n 1, 1) := by decide +kernel
theorem d_M_takeOf_9 : decode prog_14_method_42_code 9 = .ok (.bipush 8, 2) := by decide +kernel
theorem d_M_takeOf_11 : decode prog_14_method_42_code 11 = .ok (.ishl, 1) := by decide +kernel
theorem d_M_takeOf_12 : decode prog_14_method_42_code 12 = .ok (.aload_n 0, 1) := by decide +kernel
theorem d_M_takeOf_13 : decode prog_14_method_42_code 13 = .ok (.iload_n 1, 1) := by decide +kernel
theorem d_M_takeOf_14 : decode prog_14_method_42_code 14 = .ok (.iload_n 2, 1) := by decide +kernel
theorem d_M_takeOf_15 : decode prog_14_method_42_code 15 = .ok (.invokevirtual 297, 3) := by decide +kernel
theorem d_M_takeOf_18 : decode prog_14_method_42_code 18 = .ok (.iadd, 1) := by decide +kernel
theorem d_M_takeOf_19 : decode prog_14_method_42_code 19 = .ok (.iaload, 1) := by decide +kernel
theorem d_M_takeOf_20 : decode prog_14_method_42_code 20 = .ok (.ireturn, 1) := by decide +kernel
theorem d_M_bondsOf_0 : decode prog_14_method_43_code 0 = .ok (.iconst 0, 1) := by decide +kernel
theorem d_M_bondsOf_1 : decode prog_14_method_43_code 1 = .ok (.istore_n 2, 1) := by decide +kernel
theorem d_M_bondsOf_2 : decode prog_14_method_43_code 2 = .ok (.iconst 0, 1) := by decide +kernel
theorem d_M_bondsOf_3 : decode prog_14_method_43_code 3 = .ok (.istore_n 3, 1) := by decide +kernel
theorem d_M_bondsOf_4 : decode prog_14_method_43_code 4 = .ok (.iload_n 3, 1) := by decide +kernel
theorem d_M_bondsOf_5 : decode prog_14_method_43_code 5 = .ok (.aload_n 0, 1) := by decide +kernel
theorem d_M_bondsOf_6 : decode prog_14_method_43_code 6 = .ok (.getfield 161, 3) := by decide +kernel
theorem d_M_bondsOf_9 : decode prog_14_method_43_code 9 = .ok (.if_icmp .ge 25, 3) := by decide +kernel
theorem d_M_bondsOf_12 : decode prog_14_method_43_code 12 = .ok (.aload_n 0, 1) := by decide +kernel
theorem d_M_bondsOf_13 : decode prog_14_method_43_code 13 = .ok (.getfield 16, 3) := by decide +kernel
theorem d_M_bondsOf_16 : decode prog_14_method_43_code 16 = .ok (.iload_n 3, 1) := by decide +kernel
theorem d_M_bondsOf_17 : decode prog_14_method_43_code 17 = .ok (.iaload, 1) := by decide +kernel
theorem d_M_bondsOf_18 : decode prog_14_method_43_code 18 = .ok (.iload_n 1, 1) := by decide +kernel
theorem d_M_bondsOf_19 : decode prog_14_method_43_code 19 = .ok (.if_icmp .ne 9, 3) := by decide +kernel
theorem d_M_bondsOf_22 : decode prog_14_method_43_code 22 = .ok (.iload_n 2, 1) := by decide +kernel
theorem d_M_bondsOf_23 : decode prog_14_method_43_code 23 = .ok (.iconst 1, 1) := by decide +kernel
theorem d_M_bondsOf_24 : decode prog_14_method_43_code 24 = .ok (.iload_n 3, 1) := by decide +kernel
theorem d_M_bondsOf_25 : decode prog_14_method_43_code 25 = .ok (.ishl, 1) := by decide +kernel
theorem d_M_bondsOf_26 : decode prog_14_method_43_code 26 = .ok (.ior, 1) := by decide +kernel
theorem d_M_bondsOf_27 : decode prog_14_method_43_code 27 = .ok (.istore_n 2, 1) := by decide +kernel
theorem d_M_bondsOf_28 : decode prog_14_method_43_code 28 = .ok (.iinc 3 1, 3) := by decide +kernel
theorem d_M_bondsOf_31 : decode prog_14_method_43_code 31 = .ok (.goto (-27), 3) := by decide +kernel
theorem d_M_bondsOf_34 : decode prog_14_method_43_code 34 = .ok (.iload_n 2, 1) := by decide +kernel
theorem d_M_bondsOf_35 : decode prog_14_method_43_code 35 = .ok (.ireturn, 1) := by decide +kernel
theorem d_M_take_0 : decode prog_14_method_44_code 0 = .ok (.aload_n 0, 1) := by decide +kernel
theorem d_M_take_1 : decode prog_14_method_44_code 1 = .ok (.iconst 0, 1) := by decide +kernel
theorem d_M_take_2 : decode prog_14_method_44_code 2 = .ok (.putfield 148, 3) := by decide +kernel
theorem d_M_take_5 : decode prog_14_method_44_code 5 = .ok (.aload_n 0, 1) := by decide +kernel
theorem d_M_take_6 : decode prog_14_method_44_code 6 = .ok (.iload_n 1, 1) := by decide +kernel
theorem d_M_take_7 : decode prog_14_method_44_code 7 = .ok (.invokevirtual 181, 3) := by decide +kernel
theorem d_M_take_10 : decode prog_14_method_44_code 10 = .ok (.ifCond .eq 20, 3) := by decide +kernel
theorem d_M_take_13 : decode prog_14_method_44_code 13 = .ok (.aload_n 0, 1) := by decide +kernel
theorem d_M_take_14 : decode prog_14_method_44_code 14 = .ok (.iload_n 2, 1) := by decide +kernel
theorem d_M_take_15 : decode prog_14_method_44_code 15 = .ok (.invokevirtual 300, 3) := by decide +kernel
theorem d_M_take_18 : decode prog_14_method_44_code 18 = .ok (.ifCond .eq 12, 3) := by decide +kernel
theorem d_M_take_21 : decode prog_14_method_44_code 21 = .ok (.aload_n 0, 1) := by decide +kernel
theorem d_M_take_22 : decode prog_14_method_44_code 22 = .ok (.iload_n 1, 1) := by decide +kernel
theorem d_M_take_23 : decode prog_14_method_44_code 23 = .ok (.iload_n 2, 1) := by decide +kernel
theorem d_M_take_24 : decode prog_14_method_44_code 24 = .ok (.invokevirtual 303, 3) := by decide +kernel
theorem d_M_take_27 : decode prog_14_method_44_code 27 = .ok (.goto 4, 3) := by decide +kernel
theorem d_M_take_30 : decode prog_14_method_44_code 30 = .ok (.iconst (-1), 1) := by decide +kernel
theorem d_M_take_31 : decode prog_14_method_44_code 31 = .ok (.ireturn, 1) := by decide +kernel
theorem d_M_why_0 : decode prog_14_method_45_code 0 = .ok (.aload_n 0, 1) := by decide +kernel
theorem d_M_why_1 : decode prog_14_method_45_code 1 = .ok (.iconst 0, 1) := by decide +kernel
theorem d_M_why_2 : decode prog_14_method_45_code 2 = .ok (.putfield 148, 3) := by decide +kernel
theorem d_M_why_5 : decode prog_14_method_45_code 5 = .ok (.aload_n 0, 1) := by decide +kernel
theorem d_M_why_6 : decode prog_14_method_45_code 6 = .ok (.iload_n 1, 1) := by decide +kernel
theorem d_M_why_7 : decode prog_14_method_45_code 7 = .ok (.invokevirtual 181, 3) := by decide +kernel
theorem d_M_why_10 : decode prog_14_method_45_code 10 = .ok (.ifCond .eq 37, 3) := by decide +kernel
theorem d_M_why_13 : decode prog_14_method_45_code 13 = .ok (.aload_n 0, 1) := by decide +kernel
theorem d_M_why_14 : decode prog_14_method_45_code 14 = .ok (.iload_n 2, 1) := by decide +kernel
theorem d_M_why_15 : decode prog_14_method_45_code 15 = .ok (.invokevirtual 300, 3) := by decide +kernel
theorem d_M_why_18 : decode prog_14_method_45_code 18 = .ok (.ifCond .eq 29, 3) := by decide +kernel
theorem d_M_why_21 : decode prog_14_method_45_code 21 = .ok (.aload_n 0, 1) := by decide +kernel
theorem d_M_why_22 : decode prog_14_method_45_code 22 = .ok (.iload_n 3, 1) := by decide +kernel
theorem d_M_why_23 : decode prog_14_method_45_code 23 = .ok (.invokevirtual 184, 3) := by decide +kernel
theorem d_M_why_26 : decode prog_14_method_45_code 26 = .ok (.ifCond .eq 21, 3) := by decide +kernel
theorem d_M_why_29 : decode prog_14_method_45_code 29 = .ok (.aload_n 0, 1) := by decide +kernel
theorem d_M_why_30 : decode prog_14_method_45_code 30 = .ok (.getfield 16, 3) := by decide +kernel
theorem d_M_why_33 : decode prog_14_method_45_code 33 = .ok (.iload_n 3, 1) := by decide +kernel
theorem d_M_why_34 : decode prog_14_method_45_code 34 = .ok (.iaload, 1) := by decide +kernel
theorem d_M_why_35 : decode prog_14_method_45_code 35 = .ok (.iload_n 1, 1) := by decide +kernel
theorem d_M_why_36 : decode prog_14_method_45_code 36 = .ok (.if_icmp .ne 11, 3) := by decide +kernel
theorem d_M_why_39 : decode prog_14_method_45_code 39 = .ok (.iload_n 2, 1) := by decide +kernel
theorem d_M_why_40 : decode prog_14_method_45_code 40 = .ok (.iload_n 3, 1) := by decide +kernel
theorem d_M_why_41 : decode prog_14_method_45_code 41 = .ok (.invokestatic 262, 3) := by decide +kernel
theorem d_M_why_44 : decode prog_14_method_45_code 44 = .ok (.ifCond .ne 5, 3) := by decide +kernel
theorem d_M_why_47 : decode prog_14_method_45_code 47 = .ok (.iconst (-1), 1) := by decide +kernel
theorem d_M_why_48 : decode prog_14_method_45_code 48 = .ok (.ireturn, 1) := by decide +kernel
theorem d_M_why_49 : decode prog_14_method_45_code 49 = .ok (.aload_n 0, 1) := by decide +kernel
theorem d_M_why_50 : decode prog_14_method_45_code 50 = .ok (.iload_n 1, 1) := by decide +kernel
theorem d_M_why_51 : decode prog_14_method_45_code 51 = .ok (.iload_n 2, 1) := by decide +kernel
theorem d_M_why_52 : decode prog_14_method_45_code 52 = .ok (.invokevirtual 303, 3) := by decide +kernel
theorem d_M_why_55 : decode prog_14_method_45_code 55 = .ok (.istore 4, 2) := by decide +kernel
theorem d_M_why_57 : decode prog_14_method_45_code 57 = .ok (.iload 4, 2) := by decide +kernel
theorem d_M_why_59 : decode prog_14_method_45_code 59 = .ok (.iload_n 3, 1) := by decide +kernel
theorem d_M_why_60 : decode prog_14_method_45_code 60 = .ok (.invokestatic 262, 3) := by decide +kernel
theorem d_M_why_63 : decode prog_14_method_45_code 63 = .ok (.ifCond .eq 5, 3) := by decide +kernel
theorem d_M_why_66 : decode prog_14_method_45_code 66 = .ok (.iconst 0, 1) := by decide +kernel
theorem d_M_why_67 : decode prog_14_method_45_code 67 = .ok (.ireturn, 1) := by decide +kernel
theorem d_M_why_68 : decode prog_14_method_45_code 68 = .ok (.iconst 1, 1) := by decide +kernel
theorem d_M_why_69 : decode prog_14_method_45_code 69 = .ok (.iload_n 3, 1) := by decide +kernel
theorem d_M_why_70 : decode prog_14_method_45_code 70 = .ok (.ishl, 1) := by decide +kernel
theorem d_M_why_71 : decode prog_14_method_45_code 71 = .ok (.istore 5, 2) := by decide +kernel
theorem d_M_why_73 : decode prog_14_method_45_code 73 = .ok (.iconst 0, 1) := by decide +kernel
theorem d_M_why_74 : decode prog_14_method_45_code 74 = .ok (.istore 6, 2) := by decide +kernel
theorem d_M_why_76 : decode prog_14_method_45_code 76 = .ok (.aload_n 0, 1) := by decide +kernel
theorem d_M_why_77 : decode prog_14_method_45_code 77 = .ok (.getfield 93, 3) := by decide +kernel
theorem d_M_why_80 : decode prog_14_method_45_code 80 = .ok (.bipush 8, 2) := by decide +kernel
theorem d_M_why_82 : decode prog_14_method_45_code 82 = .ok (.iload_n 1, 1) := by decide +kernel
theorem d_M_why_83 : decode prog_14_method_45_code 83 = .ok (.imul, 1) := by decide +kernel
theorem d_M_why_84 : decode prog_14_method_45_code 84 = .ok (.iload 6, 2) := by decide +kernel
theorem d_M_why_86 : decode prog_14_method_45_code 86 = .ok (.iadd, 1) := by decide +kernel
theorem d_M_why_87 : decode prog_14_method_45_code 87 = .ok (.iaload, 1) := by decide +kernel
theorem d_M_why_88 : decode prog_14_method_45_code 88 = .ok (.iload_n 3, 1) := by decide +kernel
theorem d_M_why_89 : decode prog_14_method_45_code 89 = .ok (.if_icmp .eq 31, 3) := by decide +kernel
theorem d_M_why_92 : decode prog_14_method_45_code 92 = .ok (.iload 5, 2) := by decide +kernel
theorem d_M_why_94 : decode prog_14_method_45_code 94 = .ok (.iload 4, 2) := by decide +kernel
theorem d_M_why_96 : decode prog_14_method_45_code 96 = .ok (.iconst 1, 1) := by decide +kernel
theorem d_M_why_97 : decode prog_14_method_45_code 97 = .ok (.aload_n 0, 1) := by decide +kernel
theorem d_M_why_98 : decode prog_14_method_45_code 98 = .ok (.getfield 93, 3) := by decide +kernel
theorem d_M_why_101 : decode prog_14_method_45_code 101 = .ok (.bipush 8, 2) := by decide +kernel
theorem d_M_why_103 : decode prog_14_method_45_code 103 = .ok (.iload_n 1, 1) := by decide +kernel
theorem d_M_why_104 : decode prog_14_method_45_code 104 = .ok (.imul, 1) := by decide +kernel
theorem d_M_why_105 : decode prog_14_method_45_code 105 = .ok (.iload 6, 2) := by decide +kernel
theorem d_M_why_107 : decode prog_14_method_45_code 107 = .ok (.iadd, 1) := by decide +kernel
theorem d_M_why_108 : decode prog_14_method_45_code 108 = .ok (.iaload, 1) := by decide +kernel
theorem d_M_why_109 : decode prog_14_method_45_code 109 = .ok (.ishl, 1) := by decide +kernel
theorem d_M_why_110 : decode prog_14_method_45_code 110 = .ok (.iand, 1) := by decide +kernel
theorem d_M_why_111 : decode prog_14_method_45_code 111 = .ok (.ior, 1) := by decide +kernel
theorem d_M_why_112 : decode prog_14_method_45_code 112 = .ok (.istore 5, 2) := by decide +kernel
theorem d_M_why_114 : decode prog_14_method_45_code 114 = .ok (.iinc 6 1, 3) := by decide +kernel
theorem d_M_why_117 : decode prog_14_method_45_code 117 = .ok (.goto (-41), 3) := by decide +kernel
theorem d_M_why_120 : decode prog_14_method_45_code 120 = .ok (.aload_n 0, 1) := by decide +kernel
theorem d_M_why_121 : decode prog_14_method_45_code 121 = .ok (.getfield 49, 3) := by decide +kernel
theorem d_M_why_124 : decode prog_14_method_45_code 124 = .ok (.iload_n 1, 1) := by decide +kernel
theorem d_M_why_125 : decode prog_14_method_45_code 125 = .ok (.baload, 1) := by decide +kernel
theorem d_M_why_126 : decode prog_14_method_45_code 126 = .ok (.ifCond .ne 6, 3) := by decide +kernel
theorem d_M_why_129 : decode prog_14_method_45_code 129 = .ok (.bipush 6, 2) := by decide +kernel
theorem d_M_why_131 : decode prog_14_method_45_code 131 = .ok (.ireturn, 1) := by decide +kernel
theorem d_M_why_132 : decode prog_14_method_45_code 132 = .ok (.aload_n 0, 1) := by decide +kernel
theorem d_M_why_133 : decode prog_14_method_45_code 133 = .ok (.iload_n 1, 1) := by decide +kernel
theorem d_M_why_134 : decode prog_14_method_45_code 134 = .ok (.iload 5, 2) := by decide +kernel
theorem d_M_why_136 : decode prog_14_method_45_code 136 = .ok (.invokevirtual 279, 3) := by decide +kernel
theorem d_M_why_139 : decode prog_14_method_45_code 139 = .ok (.istore 6, 2) := by decide +kernel
theorem d_M_why_141 : decode prog_14_method_45_code 141 = .ok (.iload 6, 2) := by decide +kernel
theorem d_M_why_143 : decode prog_14_method_45_code 143 = .ok (.ifCond .ne 8, 3) := by decide +kernel
theorem d_M_why_146 : decode prog_14_method_45_code 146 = .ok (.bipush 6, 2) := by decide +kernel
theorem d_M_why_148 : decode prog_14_method_45_code 148 = .ok (.goto 5, 3) := by decide +kernel
theorem d_M_why_151 : decode prog_14_method_45_code 151 = .ok (.iload 6, 2) := by decide +kernel
theorem d_M_why_153 : decode prog_14_method_45_code 153 = .ok (.ireturn, 1) := by decide +kernel
theorem d_M_order_0 : decode prog_14_method_46_code 0 = .ok (.aload_n 0, 1) := by decide +kernel
theorem d_M_order_1 : decode prog_14_method_46_code 1 = .ok (.iconst 0, 1) := by decide +kernel
theorem d_M_order_2 : decode prog_14_method_46_code 2 = .ok (.putfield 148, 3) := by decide +kernel
theorem d_M_order_5 : decode prog_14_method_46_code 5 = .ok (.aload_n 0, 1) := by decide +kernel
theorem d_M_order_6 : decode prog_14_method_46_code 6 = .ok (.iload_n 1, 1) := by decide +kernel
theorem d_M_order_7 : decode prog_14_method_46_code 7 = .ok (.invokevirtual 184, 3) := by decide +kernel
theorem d_M_order_10 : decode prog_14_method_46_code 10 = .ok (.ifCond .ne 5, 3) := by decide +kernel
theorem d_M_order_13 : decode prog_14_method_46_code 13 = .ok (.iconst (-1), 1) := by decide +kernel
theorem d_M_order_14 : decode prog_14_method_46_code 14 = .ok (.ireturn, 1) := by decide +kernel
theorem d_M_order_15 : decode prog_14_method_46_code 15 = .ok (.aload_n 0, 1) := by decide +kernel
theorem d_M_order_16 : decode prog_14_method_46_code 16 = .ok (.invokevirtual 295, 3) := by decide +kernel
theorem d_M_order_19 : decode prog_14_method_46_code 19 = .ok (.iconst 0, 1) := by decide +kernel
theorem d_M_order_20 : decode prog_14_method_46_code 20 = .ok (.istore_n 2, 1) := by decide +kernel
theorem d_M_order_21 : decode prog_14_method_46_code 21 = .ok (.aload_n 0, 1) := by decide +kernel
theorem d_M_order_22 : decode prog_14_method_46_code 22 = .ok (.getfield 93, 3) := by decide +kernel
theorem d_M_order_25 : decode prog_14_method_46_code 25 = .ok (.bipush 8, 2) := by decide +kernel
theorem d_M_order_27 : decode prog_14_method_46_code 27 = .ok (.aload_n 0, 1) := by decide +kernel
theorem d_M_order_28 : decode prog_14_method_46_code 28 = .ok (.getfield 16, 3) := by decide +kernel
theorem d_M_order_31 : decode prog_14_method_46_code 31 = .ok (.iload_n 1, 1) := by decide +kernel
theorem d_M_order_32 : decode prog_14_method_46_code 32 = .ok (.iaload, 1) := by decide +kernel
theorem d_M_order_33 : decode prog_14_method_46_code 33 = .ok (.imul, 1) := by decide +kernel
theorem d_M_order_34 : decode prog_14_method_46_code 34 = .ok (.iload_n 2, 1) := by decide +kernel
theorem d_M_order_35 : decode prog_14_method_46_code 35 = .ok (.iadd, 1) := by decide +kernel
theorem d_M_order_36 : decode prog_14_method_46_code 36 = .ok (.iaload, 1) := by decide +kernel
theorem d_M_order_37 : decode prog_14_method_46_code 37 = .ok (.iload_n 1, 1) := by decide +kernel
theorem d_M_order_38 : decode prog_14_method_46_code 38 = .ok (.if_icmp .eq 9, 3) := by decide +kernel
theorem d_M_order_41 : decode prog_14_method_46_code 41 = .ok (.iinc 2 1, 3) := by decide +kernel
theorem d_M_order_44 : decode prog_14_method_46_code 44 = .ok (.goto (-23), 3) := by decide +kernel
theorem d_M_order_47 : decode prog_14_method_46_code 47 = .ok (.iload_n 2, 1) := by decide +kernel
theorem d_M_order_48 : decode prog_14_method_46_code 48 = .ok (.ireturn, 1) := by decide +kernel
theorem d_M_law_0 : decode prog_14_method_47_code 0 = .ok (.aload_n 0, 1) := by decide +kernel
theorem d_M_law_1 : decode prog_14_method_47_code 1 = .ok (.iconst 0, 1) := by decide +kernel
theorem d_M_law_2 : decode prog_14_method_47_code 2 = .ok (.putfield 148, 3) := by decide +kernel
theorem d_M_law_5 : decode prog_14_method_47_code 5 = .ok (.aload_n 0, 1) := by decide +kernel
theorem d_M_law_6 : decode prog_14_method_47_code 6 = .ok (.iload_n 1, 1) := by decide +kernel
theorem d_M_law_7 : decode prog_14_method_47_code 7 = .ok (.invokevirtual 181, 3) := by decide +kernel
theorem d_M_law_10 : decode prog_14_method_47_code 10 = .ok (.ifCond .eq 12, 3) := by decide +kernel
theorem d_M_law_13 : decode prog_14_method_47_code 13 = .ok (.iload_n 2, 1) := by decide +kernel
theorem d_M_law_14 : decode prog_14_method_47_code 14 = .ok (.iconst 0, 1) := by decide +kernel
theorem d_M_law_15 : decode prog_14_method_47_code 15 = .ok (.iconst 1, 1) := by decide +kernel
theorem d_M_law_16 : decode prog_14_method_47_code 16 = .ok (.invokestatic 154, 3) := by decide +kernel
theorem d_M_law_19 : decode prog_14_method_47_code 19 = .ok (.ifCond .ne 5, 3) := by decide +kernel
theorem d_M_law_22 : decode prog_14_method_47_code 22 = .ok (.iconst (-1), 1) := by decide +kernel
theorem d_M_law_23 : decode prog_14_method_47_code 23 = .ok (.ireturn, 1) := by decide +kernel
theorem d_M_law_24 : decode prog_14_method_47_code 24 = .ok (.aload_n 0, 1) := by decide +kernel
theorem d_M_law_25 : decode prog_14_method_47_code 25 = .ok (.iload_n 1, 1) := by decide +kernel
theorem d_M_law_26 : decode prog_14_method_47_code 26 = .ok (.invokevirtual 306, 3) := by decide +kernel
theorem d_M_law_29 : decode prog_14_method_47_code 29 = .ok (.istore_n 3, 1) := by decide +kernel
theorem d_M_law_30 : decode prog_14_method_47_code 30 = .ok (.iconst 0, 1) := by decide +kernel
theorem d_M_law_31 : decode prog_14_method_47_code 31 = .ok (.istore 4, 2) := by decide +kernel
theorem d_M_law_33 : decode prog_14_method_47_code 33 = .ok (.aload_n 0, 1) := by decide +kernel
theorem d_M_law_34 : decode prog_14_method_47_code 34 = .ok (.iload_n 1, 1) := by decide +kernel
theorem d_M_law_35 : decode prog_14_method_47_code 35 = .ok (.iload 4, 2) := by decide +kernel
theorem d_M_law_37 : decode prog_14_method_47_code 37 = .ok (.invokevirtual 303, 3) := by decide +kernel
theorem d_M_law_40 : decode prog_14_method_47_code 40 = .ok (.istore 5, 2) := by decide +kernel
theorem d_M_law_42 : decode prog_14_method_47_code 42 = .ok (.iconst 0, 1) := by decide +kernel
theorem d_M_law_43 : decode prog_14_method_47_code 43 = .ok (.istore 6, 2) := by decide +kernel
theorem d_M_law_45 : decode prog_14_method_47_code 45 = .ok (.iload 6, 2) := by decide +kernel
theorem d_M_law_47 : decode prog_14_method_47_code 47 = .ok (.aload_n 0, 1) := by decide +kernel
theorem d_M_law_48 : decode prog_14_method_47_code 48 = .ok (.getfield 161, 3) := by decide +kernel
theorem d_M_law_51 : decode prog_14_method_47_code 51 = .ok (.if_icmp .ge 117, 3) := by decide +kernel
theorem d_M_law_54 : decode prog_14_method_47_code 54 = .ok (.iload_n 3, 1) := by decide +kernel
theorem d_M_law_55 : decode prog_14_method_47_code 55 = .ok (.iload 6, 2) := by decide +kernel
theorem d_M_law_57 : decode prog_14_method_47_code 57 = .ok (.invokestatic 262, 3) := by decide +kernel
theorem d_M_law_60 : decode prog_14_method_47_code 60 = .ok (.ifCond .eq 102, 3) := by decide +kernel
theorem d_M_law_63 : decode prog_14_method_47_code 63 = .ok (.iload 4, 2) := by decide +kernel
theorem d_M_law_65 : decode prog_14_method_47_code 65 = .ok (.iload 6, 2) := by decide +kernel
theorem d_M_law_67 : decode prog_14_method_47_code 67 = .ok (.invokestatic 262, 3) := by decide +kernel
theorem d_M_law_70 : decode prog_14_method_47_code 70 = .ok (.ifCond .eq 6, 3) := by decide +kernel
theorem d_M_law_73 : decode prog_14_method_47_code 73 = .ok (.goto 89, 3) := by decide +kernel
theorem d_M_law_76 : decode prog_14_method_47_code 76 = .ok (.aload_n 0, 1) := by decide +kernel
theorem d_M_law_77 : decode prog_14_method_47_code 77 = .ok (.iload_n 1, 1) := by decide +kernel
theorem d_M_law_78 : decode prog_14_method_47_code 78 = .ok (.iload 4, 2) := by decide +kernel
theorem d_M_law_80 : decode prog_14_method_47_code 80 = .ok (.iconst 1, 1) := by decide +kernel
theorem d_M_law_81 : decode prog_14_method_47_code 81 = .ok (.iload 6, 2) := by decide +kernel
theorem d_M_law_83 : decode prog_14_method_47_code 83 = .ok (.ishl, 1) := by decide +kernel
theorem d_M_law_84 : decode prog_14_method_47_code 84 = .ok (.ior, 1) := by decide +kernel
theorem d_M_law_85 : decode prog_14_method_47_code 85 = .ok (.invokevirtual 303, 3) := by decide +kernel
theorem d_M_law_88 : decode prog_14_method_47_code 88 = .ok (.istore 7, 2) := by decide +kernel
theorem d_M_law_90 : decode prog_14_method_47_code 90 = .ok (.iload 4, 2) := by decide +kernel
theorem d_M_law_92 : decode prog_14_method_47_code 92 = .ok (.iload 5, 2) := by decide +kernel
theorem d_M_law_94 : decode prog_14_method_47_code 94 = .ok (.iconst (-1), 1) := by decide +kernel
theorem d_M_law_95 : decode prog_14_method_47_code 95 = .ok (.ixor, 1) := by decide +kernel
theorem d_M_law_96 : decode prog_14_method_47_code 96 = .ok (.iand, 1) := by decide +kernel
theorem d_M_law_97 : decode prog_14_method_47_code 97 = .ok (.iload 7, 2) := by decide +kernel
theorem d_M_law_99 : decode prog_14_method_47_code 99 = .ok (.iand, 1) := by decide +kernel
theorem d_M_law_100 : decode prog_14_method_47_code 100 = .ok (.istore 8, 2) := by decide +kernel
theorem d_M_law_102 : decode prog_14_method_47_code 102 = .ok (.iload_n 2, 1) := by decide +kernel
theorem d_M_law_103 : decode prog_14_method_47_code 103 = .ok (.ifCond .ne 11, 3) := by decide +kernel
theorem d_M_law_106 : decode prog_14_method_47_code 106 = .ok (.iload 8, 2) := by decide +kernel
theorem d_M_law_108 : decode prog_14_method_47_code 108 = .ok (.ifCond .ne 22, 3) := by decide +kernel
theorem d_M_law_111 : decode prog_14_method_47_code 111 = .ok (.goto 51, 3) := by decide +kernel
theorem d_M_law_114 : decode prog_14_method_47_code 114 = .ok (.iload 7, 2) := by decide +kernel
theorem d_M_law_116 : decode prog_14_method_47_code 116 = .ok (.invokestatic 268, 3) := by decide +kernel
theorem d_M_law_119 : decode prog_14_method_47_code 119 = .ok (.iload 5, 2) := by decide +kernel
theorem d_M_law_121 : decode prog_14_method_47_code 121 = .ok (.invokestatic 268, 3) := by decide +kernel
theorem d_M_law_124 : decode prog_14_method_47_code 124 = .ok (.if_icmp .lt 6, 3) := by decide +kernel
theorem d_M_law_127 : decode prog_14_method_47_code 127 = .ok (.goto 35, 3) := by decide +kernel
theorem d_M_law_130 : decode prog_14_method_47_code 130 = .ok (.aload_n 0, 1) := by decide +kernel
theorem d_M_law_131 : decode prog_14_method_47_code 131 = .ok (.iconst 0, 1) := by decide +kernel
theorem d_M_law_132 : decode prog_14_method_47_code 132 = .ok (.putfield 170, 3) := by decide +kernel
theorem d_M_law_135 : decode prog_14_method_47_code 135 = .ok (.aload_n 0, 1) := by decide +kernel
theorem d_M_law_136 : decode prog_14_method_47_code 136 = .ok (.iload 4, 2) := by decide +kernel
theorem d_M_law_138 : decode prog_14_method_47_code 138 = .ok (.invokevirtual 309, 3) := by decide +kernel
theorem d_M_law_141 : decode prog_14_method_47_code 141 = .ok (.aload_n 0, 1) := by decide +kernel
theorem d_M_law_142 : decode prog_14_method_47_code 142 = .ok (.iload 6, 2) := by decide +kernel
theorem d_M_law_144 : decode prog_14_method_47_code 144 = .ok (.invokevirtual 309, 3) := by decide +kernel
theorem d_M_law_147 : decode prog_14_method_47_code 147 = .ok (.iload_n 2, 1) := by decide +kernel
theorem d_M_law_148 : decode prog_14_method_47_code 148 = .ok (.ifCond .ne 12, 3) := by decide +kernel
theorem d_M_law_151 : decode prog_14_method_47_code 151 = .ok (.aload_n 0, 1) := by decide +kernel
theorem d_M_law_152 : decode prog_14_method_47_code 152 = .ok (.iload 8, 2) := by decide +kernel
theorem d_M_law_154 : decode prog_14_method_47_code 154 = .ok (.invokestatic 312, 3) := by decide +kernel
theorem d_M_law_157 : decode prog_14_method_47_code 157 = .ok (.invokevirtual 309, 3) := by decide +kernel
theorem d_M_law_160 : decode prog_14_method_47_code 160 = .ok (.iconst 0, 1) := by decide +kernel
theorem d_M_law_161 : decode prog_14_method_47_code 161 = .ok (.ireturn, 1) := by decide +kernel
theorem d_M_law_162 : decode prog_14_method_47_code 162 = .ok (.iinc 6 1, 3) := by decide +kernel
theorem d_M_law_165 : decode prog_14_method_47_code 165 = .ok (.goto (-120), 3) := by decide +kernel
theorem d_M_law_168 : decode prog_14_method_47_code 168 = .ok (.iload 4, 2) := by decide +kernel
theorem d_M_law_170 : decode prog_14_method_47_code 170 = .ok (.iload_n 3, 1) := by decide +kernel
theorem d_M_law_171 : decode prog_14_method_47_code 171 = .ok (.if_icmp .ne 5, 3) := by decide +kernel
theorem d_M_law_174 : decode prog_14_method_47_code 174 = .ok (.iconst 1, 1) := by decide +kernel
theorem d_M_law_175 : decode prog_14_method_47_code 175 = .ok (.ireturn, 1) := by decide +kernel
theorem d_M_law_176 : decode prog_14_method_47_code 176 = .ok (.iload 4, 2) := by decide +kernel
theorem d_M_law_178 : decode prog_14_method_47_code 178 = .ok (.iload_n 3, 1) := by decide +kernel
theorem d_M_law_179 : decode prog_14_method_47_code 179 = .ok (.isub, 1) := by decide +kernel
theorem d_M_law_180 : decode prog_14_method_47_code 180 = .ok (.iload_n 3, 1) := by decide +kernel
theorem d_M_law_181 : decode prog_14_method_47_code 181 = .ok (.iand, 1) := by decide +kernel
theorem d_M_law_182 : decode prog_14_method_47_code 182 = .ok (.istore 4, 2) := by decide +kernel
theorem d_M_law_184 : decode prog_14_method_47_code 184 = .ok (.goto (-151), 3) := by decide +kernel
theorem d_M_bondOf_0 : decode prog_14_method_48_code 0 = .ok (.iconst 0, 1) := by decide +kernel
theorem d_M_bondOf_1 : decode prog_14_method_48_code 1 = .ok (.istore_n 3, 1) := by decide +kernel
theorem d_M_bondOf_2 : decode prog_14_method_48_code 2 = .ok (.iload_n 3, 1) := by decide +kernel
theorem d_M_bondOf_3 : decode prog_14_method_48_code 3 = .ok (.aload_n 0, 1) := by decide +kernel
theorem d_M_bondOf_4 : decode prog_14_method_48_code 4 = .ok (.getfield 161, 3) := by decide +kernel
theorem d_M_bondOf_7 : decode prog_14_method_48_code 7 = .ok (.if_icmp .ge 29, 3) := by decide +kernel
theorem d_M_bondOf_10 : decode prog_14_method_48_code 10 = .ok (.iload_n 1, 1) := by decide +kernel
theorem d_M_bondOf_11 : decode prog_14_method_48_code 11 = .ok (.iload_n 3, 1) := by decide +kernel
theorem d_M_bondOf_12 : decode prog_14_method_48_code 12 = .ok (.invokestatic 262, 3) := by decide +kernel
theorem d_M_bondOf_15 : decode prog_14_method_48_code 15 = .ok (.ifCond .eq 15, 3) := by decide +kernel
theorem d_M_bondOf_18 : decode prog_14_method_48_code 18 = .ok (.aload_n 0, 1) := by decide +kernel
theorem d_M_bondOf_19 : decode prog_14_method_48_code 19 = .ok (.getfield 13, 3) := by decide +kernel
theorem d_M_bondOf_22 : decode prog_14_method_48_code 22 = .ok (.iload_n 3, 1) := by decide +kernel
theorem d_M_bondOf_23 : decode prog_14_method_48_code 23 = .ok (.iaload, 1) := by decide +kernel
theorem d_M_bondOf_24 : decode prog_14_method_48_code 24 = .ok (.iload_n 2, 1) := by decide +kernel
theorem d_M_bondOf_25 : decode prog_14_method_48_code 25 = .ok (.if_icmp .ne 5, 3) := by decide +kernel
theorem d_M_bondOf_28 : decode prog_14_method_48_code 28 = .ok (.iload_n 3, 1) := by decide +kernel
theorem d_M_bondOf_29 : decode prog_14_method_48_code 29 = .ok (.ireturn, 1) := by decide +kernel
theorem d_M_bondOf_30 : decode prog_14_method_48_code 30 = .ok (.iinc 3 1, 3) := by decide +kernel
theorem d_M_bondOf_33 : decode prog_14_method_48_code 33 = .ok (.goto (-31), 3) := by decide +kernel
theorem d_M_bondOf_36 : decode prog_14_method_48_code 36 = .ok (.iconst (-1), 1) := by decide +kernel
theorem d_M_bondOf_37 : decode prog_14_method_48_code 37 = .ok (.ireturn, 1) := by decide +kernel
theorem d_M_rank_0 : decode prog_14_method_49_code 0 = .ok (.aload_n 0, 1) := by decide +kernel
theorem d_M_rank_1 : decode prog_14_method_49_code 1 = .ok (.iload_n 1, 1) := by decide +kernel
theorem d_M_rank_2 : decode prog_14_method_49_code 2 = .ok (.iload_n 2, 1) := by decide +kernel
theorem d_M_rank_3 : decode prog_14_method_49_code 3 = .ok (.invokevirtual 315, 3) := by decide +kernel
theorem d_M_rank_6 : decode prog_14_method_49_code 6 = .ok (.istore_n 3, 1) := by decide +kernel
theorem d_M_rank_7 : decode prog_14_method_49_code 7 = .ok (.iload_n 3, 1) := by decide +kernel
theorem d_M_rank_8 : decode prog_14_method_49_code 8 = .ok (.iconst (-1), 1) := by decide +kernel
theorem d_M_rank_9 : decode prog_14_method_49_code 9 = .ok (.if_icmp .ne 12, 3) := by decide +kernel
theorem d_M_rank_12 : decode prog_14_method_49_code 12 = .ok (.aload_n 0, 1) := by decide +kernel
theorem d_M_rank_13 : decode prog_14_method_49_code 13 = .ok (.getfield 31, 3) := by decide +kernel
theorem d_M_rank_16 : decode prog_14_method_49_code 16 = .ok (.iload_n 2, 1) := by decide +kernel
theorem d_M_rank_17 : decode prog_14_method_49_code 17 = .ok (.iaload, 1) := by decide +kernel
theorem d_M_rank_18 : decode prog_14_method_49_code 18 = .ok (.goto 8, 3) := by decide +kernel
theorem d_M_rank_21 : decode prog_14_method_49_code 21 = .ok (.aload_n 0, 1) := by decide +kernel
theorem d_M_rank_22 : decode prog_14_method_49_code 22 = .ok (.iload_n 3, 1) := by decide +kernel
theorem d_M_rank_23 : decode prog_14_method_49_code 23 = .ok (.invokevirtual 187, 3) := by decide +kernel
theorem d_M_rank_26 : decode prog_14_method_49_code 26 = .ok (.ireturn, 1) := by decide +kernel
theorem d_M_rankOfCouple_0 : decode prog_14_method_50_code 0 = .ok (.aload_n 0, 1) := by decide +kernel
theorem d_M_rankOfCouple_1 : decode prog_14_method_50_code 1 = .ok (.iload_n 1, 1) := by decide +kernel
theorem d_M_rankOfCouple_2 : decode prog_14_method_50_code 2 = .ok (.aload_n 0, 1) := by decide +kernel
theorem d_M_rankOfCouple_3 : decode prog_14_method_50_code 3 = .ok (.getfield 34, 3) := by decide +kernel
theorem d_M_rankOfCouple_6 : decode prog_14_method_50_code 6 = .ok (.iload_n 2, 1) := by decide +kernel
theorem d_M_rankOfCouple_7 : decode prog_14_method_50_code 7 = .ok (.iaload, 1) := by decide +kernel
theorem d_M_rankOfCouple_8 : decode prog_14_method_50_code 8 = .ok (.invokevirtual 315, 3) := by decide +kernel
theorem d_M_rankOfCouple_11 : decode prog_14_method_50_code 11 = .ok (.istore_n 3, 1) := by decide +kernel
theorem d_M_rankOfCouple_12 : decode prog_14_method_50_code 12 = .ok (.aload_n 0, 1) := by decide +kernel
theorem d_M_rankOfCouple_13 : decode prog_14_method_50_code 13 = .ok (.iload_n 1, 1) := by decide +kernel
theorem d_M_rankOfCouple_14 : decode prog_14_method_50_code 14 = .ok (.aload_n 0, 1) := by decide +kernel
theorem d_M_rankOfCouple_15 : decode prog_14_method_50_code 15 = .ok (.getfield 37, 3) := by decide +kernel
theorem d_M_rankOfCouple_18 : decode prog_14_method_50_code 18 = .ok (.iload_n 2, 1) := by decide +kernel
theorem d_M_rankOfCouple_19 : decode prog_14_method_50_code 19 = .ok (.iaload, 1) := by decide +kernel
theorem d_M_rankOfCouple_20 : decode prog_14_method_50_code 20 = .ok (.invokevirtual 315, 3) := by decide +kernel
theorem d_M_rankOfCouple_23 : decode prog_14_method_50_code 23 = .ok (.istore 4, 2) := by decide +kernel
theorem d_M_rankOfCouple_25 : decode prog_14_method_50_code 25 = .ok (.iload_n 3, 1) := by decide +kernel
theorem d_M_rankOfCouple_26 : decode prog_14_method_50_code 26 = .ok (.iconst (-1), 1) := by decide +kernel
theorem d_M_rankOfCouple_27 : decode prog_14_method_50_code 27 = .ok (.if_icmp .ne 16, 3) := by decide +kernel
theorem d_M_rankOfCouple_30 : decode prog_14_method_50_code 30 = .ok (.iload 4, 2) := by decide +kernel
theorem d_M_rankOfCouple_32 : decode prog_14_method_50_code 32 = .ok (.iconst (-1), 1) := by decide +kernel
theorem d_M_rankOfCouple_33 : decode prog_14_method_50_code 33 = .ok (.if_icmp .ne 10, 3) := by decide +kernel
theorem d_M_rankOfCouple_36 : decode prog_14_method_50_code 36 = .ok (.aload_n 0, 1) := by decide +kernel
theorem d_M_rankOfCouple_37 : decode prog_14_method_50_code 37 = .ok (.getfield 46, 3) := by decide +kernel
theorem d_M_rankOfCouple_40 : decode prog_14_method_50_code 40 = .ok (.iload_n 2, 1) := by decide +kernel
theorem d_M_rankOfCouple_41 : decode prog_14_method_50_code 41 = .ok (.iaload, 1) := by decide +kernel
theorem d_M_rankOfCouple_42 : decode prog_14_method_50_code 42 = .ok (.ireturn, 1) := by decide +kernel
theorem d_M_rankOfCouple_43 : decode prog_14_method_50_code 43 = .ok (.iconst 0, 1) := by decide +kernel
theorem d_M_rankOfCouple_44 : decode prog_14_method_50_code 44 = .ok (.istore 5, 2) := by decide +kernel
theorem d_M_rankOfCouple_46 : decode prog_14_method_50_code 46 = .ok (.iload 5, 2) := by decide +kernel
theorem d_M_rankOfCouple_48 : decode prog_14_method_50_code 48 = .ok (.aload_n 0, 1) := by decide +kernel
theorem d_M_rankOfCouple_49 : decode prog_14_method_50_code 49 = .ok (.getfield 46, 3) := by decide +kernel
theorem d_M_rankOfCouple_52 : decode prog_14_method_50_code 52 = .ok (.iload_n 2, 1) := by decide +kernel
theorem d_M_rankOfCouple_53 : decode prog_14_method_50_code 53 = .ok (.iaload, 1) := by decide +kernel
theorem d_M_rankOfCouple_54 : decode prog_14_method_50_code 54 = .ok (.if_icmp .ge 45, 3) := by decide +kernel
theorem d_M_rankOfCouple_57 : decode prog_14_method_50_code 57 = .ok (.aload_n 0, 1) := by decide +kernel
theorem d_M_rankOfCouple_58 : decode prog_14_method_50_code 58 = .ok (.getfield 40, 3) := by decide +kernel
theorem d_M_rankOfCouple_61 : decode prog_14_method_50_code 61 = .ok (.bipush 8, 2) := by decide +kernel
theorem d_M_rankOfCouple_63 : decode prog_14_method_50_code 63 = .ok (.iload_n 2, 1) := by decide +kernel
theorem d_M_rankOfCouple_64 : decode prog_14_method_50_code 64 = .ok (.imul, 1) := by decide +kernel
theorem d_M_rankOfCouple_65 : decode prog_14_method_50_code 65 = .ok (.iload 5, 2) := by decide +kernel
theorem d_M_rankOfCouple_67 : decode prog_14_method_50_code 67 = .ok (.iadd, 1) := by decide +kernel
theorem d_M_rankOfCouple_68 : decode prog_14_method_50_code 68 = .ok (.iaload, 1) := by decide +kernel
theorem d_M_rankOfCouple_69 : decode prog_14_method_50_code 69 = .ok (.iload_n 3, 1) := by decide +kernel
theorem d_M_rankOfCouple_70 : decode prog_14_method_50_code 70 = .ok (.if_icmp .ne 23, 3) := by decide +kernel
theorem d_M_rankOfCouple_73 : decode prog_14_method_50_code 73 = .ok (.aload_n 0, 1) := by decide +kernel
theorem d_M_rankOfCouple_74 : decode prog_14_method_50_code 74 = .ok (.getfield 43, 3) := by decide +kernel
theorem d_M_rankOfCouple_77 : decode prog_14_method_50_code 77 = .ok (.bipush 8, 2) := by decide +kernel
theorem d_M_rankOfCouple_79 : decode prog_14_method_50_code 79 = .ok (.iload_n 2, 1) := by decide +kernel
theorem d_M_rankOfCouple_80 : decode prog_14_method_50_code 80 = .ok (.imul, 1) := by decide +kernel
theorem d_M_rankOfCouple_81 : decode prog_14_method_50_code 81 = .ok (.iload 5, 2) := by decide +kernel
theorem d_M_rankOfCouple_83 : decode prog_14_method_50_code 83 = .ok (.iadd, 1) := by decide +kernel
theorem d_M_rankOfCouple_84 : decode prog_14_method_50_code 84 = .ok (.iaload, 1) := by decide +kernel
theorem d_M_rankOfCouple_85 : decode prog_14_method_50_code 85 = .ok (.iload 4, 2) := by decide +kernel
theorem d_M_rankOfCouple_87 : decode prog_14_method_50_code 87 = .ok (.if_icmp .ne 6, 3) := by decide +kernel
theorem d_M_rankOfCouple_90 : decode prog_14_method_50_code 90 = .ok (.iload 5, 2) := by decide +kernel
theorem d_M_rankOfCouple_92 : decode prog_14_method_50_code 92 = .ok (.ireturn, 1) := by decide +kernel
theorem d_M_rankOfCouple_93 : decode prog_14_method_50_code 93 = .ok (.iinc 5 1, 3) := by decide +kernel
theorem d_M_rankOfCouple_96 : decode prog_14_method_50_code 96 = .ok (.goto (-50), 3) := by decide +kernel
theorem d_M_rankOfCouple_99 : decode prog_14_method_50_code 99 = .ok (.iconst (-1), 1) := by decide +kernel
theorem d_M_rankOfCouple_100 : decode prog_14_method_50_code 100 = .ok (.ireturn, 1) := by decide +kernel
theorem d_M_isFree_0 : decode prog_14_method_51_code 0 = .ok (.iconst 0, 1) := by decide +kernel
theorem d_M_isFree_1 : decode prog_14_method_51_code 1 = .ok (.istore_n 2, 1) := by decide +kernel
theorem d_M_isFree_2 : decode prog_14_method_51_code 2 = .ok (.iload_n 2, 1) := by decide +kernel
theorem d_M_isFree_3 : decode prog_14_method_51_code 3 = .ok (.aload_n 0, 1) := by decide +kernel
theorem d_M_isFree_4 : decode prog_14_method_51_code 4 = .ok (.getfield 151, 3) := by decide +kernel
theorem d_M_isFree_7 : decode prog_14_method_51_code 7 = .ok (.if_icmp .ge 30, 3) := by decide +kernel
theorem d_M_isFree_10 : decode prog_14_method_51_code 10 = .ok (.aload_n 0, 1) := by decide +kernel
theorem d_M_isFree_11 : decode prog_14_method_51_code 11 = .ok (.iload_n 2, 1) := by decide +kernel
theorem d_M_isFree_12 : decode prog_14_method_51_code 12 = .ok (.invokevirtual 193, 3) := by decide +kernel
theorem d_M_isFree_15 : decode prog_14_method_51_code 15 = .ok (.iconst (-1), 1) := by decide +kernel
theorem d_M_isFree_16 : decode prog_14_method_51_code 16 = .ok (.if_icmp .ne 15, 3) := by decide +kernel
theorem d_M_isFree_19 : decode prog_14_method_51_code 19 = .ok (.aload_n 0, 1) := by decide +kernel
theorem d_M_isFree_20 : decode prog_14_method_51_code 20 = .ok (.iload_n 1, 1) := by decide +kernel
theorem d_M_isFree_21 : decode prog_14_method_51_code 21 = .ok (.iload_n 2, 1) := by decide +kernel
theorem d_M_isFree_22 : decode prog_14_method_51_code 22 = .ok (.invokevirtual 318, 3) := by decide +kernel
theorem d_M_isFree_25 : decode prog_14_method_51_code 25 = .ok (.iconst (-1), 1) := by decide +kernel
theorem d_M_isFree_26 : decode prog_14_method_51_code 26 = .ok (.if_icmp .ne 5, 3) := by decide +kernel
theorem d_M_isFree_29 : decode prog_14_method_51_code 29 = .ok (.iconst 0, 1) := by decide +kernel
theorem d_M_isFree_30 : decode prog_14_method_51_code 30 = .ok (.ireturn, 1) := by decide +kernel
theorem d_M_isFree_31 : decode prog_14_method_51_code 31 = .ok (.iinc 2 1, 3) := by decide +kernel
theorem d_M_isFree_34 : decode prog_14_method_51_code 34 = .ok (.goto (-32), 3) := by decide +kernel
theorem d_M_isFree_37 : decode prog_14_method_51_code 37 = .ok (.iconst 0, 1) := by decide +kernel
theorem d_M_isFree_38 : decode prog_14_method_51_code 38 = .ok (.istore_n 2, 1) := by decide +kernel
theorem d_M_isFree_39 : decode prog_14_method_51_code 39 = .ok (.iload_n 2, 1) := by decide +kernel
theorem d_M_isFree_40 : decode prog_14_method_51_code 40 = .ok (.aload_n 0, 1) := by decide +kernel
theorem d_M_isFree_41 : decode prog_14_method_51_code 41 = .ok (.getfield 190, 3) := by decide +kernel
theorem d_M_isFree_44 : decode prog_14_method_51_code 44 = .ok (.if_icmp .ge 21, 3) := by decide +kernel
theorem d_M_isFree_47 : decode prog_14_method_51_code 47 = .ok (.aload_n 0, 1) := by decide +kernel
theorem d_M_isFree_48 : decode prog_14_method_51_code 48 = .ok (.iload_n 1, 1) := by decide +kernel
theorem d_M_isFree_49 : decode prog_14_method_51_code 49 = .ok (.iload_n 2, 1) := by decide +kernel
theorem d_M_isFree_50 : decode prog_14_method_51_code 50 = .ok (.invokevirtual 321, 3) := by decide +kernel
theorem d_M_isFree_53 : decode prog_14_method_51_code 53 = .ok (.iconst (-1), 1) := by decide +kernel
theorem d_M_isFree_54 : decode prog_14_method_51_code 54 = .ok (.if_icmp .ne 5, 3) := by decide +kernel
theorem d_M_isFree_57 : decode prog_14_method_51_code 57 = .ok (.iconst 0, 1) := by decide +kernel
theorem d_M_isFree_58 : decode prog_14_method_51_code 58 = .ok (.ireturn, 1) := by decide +kernel
theorem d_M_isFree_59 : decode prog_14_method_51_code 59 = .ok (.iinc 2 1, 3) := by decide +kernel
theorem d_M_isFree_62 : decode prog_14_method_51_code 62 = .ok (.goto (-23), 3) := by decide +kernel
theorem d_M_isFree_65 : decode prog_14_method_51_code 65 = .ok (.iconst 0, 1) := by decide +kernel
theorem d_M_isFree_66 : decode prog_14_method_51_code 66 = .ok (.istore_n 2, 1) := by decide +kernel
theorem d_M_isFree_67 : decode prog_14_method_51_code 67 = .ok (.iload_n 2, 1) := by decide +kernel
theorem d_M_isFree_68 : decode prog_14_method_51_code 68 = .ok (.aload_n 0, 1) := by decide +kernel
theorem d_M_isFree_69 : decode prog_14_method_51_code 69 = .ok (.getfield 158, 3) := by decide +kernel
theorem d_M_isFree_72 : decode prog_14_method_51_code 72 = .ok (.if_icmp .ge 29, 3) := by decide +kernel
theorem d_M_isFree_75 : decode prog_14_method_51_code 75 = .ok (.iload_n 1, 1) := by decide +kernel
theorem d_M_isFree_76 : decode prog_14_method_51_code 76 = .ok (.aload_n 0, 1) := by decide +kernel
theorem d_M_isFree_77 : decode prog_14_method_51_code 77 = .ok (.iload_n 2, 1) := by decide +kernel
theorem d_M_isFree_78 : decode prog_14_method_51_code 78 = .ok (.invokevirtual 306, 3) := by decide +kernel
theorem d_M_isFree_81 : decode prog_14_method_51_code 81 = .ok (.iand, 1) := by decide +kernel
theorem d_M_isFree_82 : decode prog_14_method_51_code 82 = .ok (.istore_n 3, 1) := by decide +kernel
theorem d_M_isFree_83 : decode prog_14_method_51_code 83 = .ok (.aload_n 0, 1) := by decide +kernel
theorem d_M_isFree_84 : decode prog_14_method_51_code 84 = .ok (.iload_n 2, 1) := by decide +kernel
theorem d_M_isFree_85 : decode prog_14_method_51_code 85 = .ok (.iload_n 3, 1) := by decide +kernel
theorem d_M_isFree_86 : decode prog_14_method_51_code 86 = .ok (.invokevirtual 303, 3) := by decide +kernel
theorem d_M_isFree_89 : decode prog_14_method_51_code 89 = .ok (.iload_n 3, 1) := by decide +kernel
theorem d_M_isFree_90 : decode prog_14_method_51_code 90 = .ok (.if_icmp .eq 5, 3) := by decide +kernel
theorem d_M_isFree_93 : decode prog_14_method_51_code 93 = .ok (.iconst 0, 1) := by decide +kernel
theorem d_M_isFree_94 : decode prog_14_method_51_code 94 = .ok (.ireturn, 1) := by decide +kernel
theorem d_M_isFree_95 : decode prog_14_method_51_code 95 = .ok (.iinc 2 1, 3) := by decide +kernel
theorem d_M_isFree_98 : decode prog_14_method_51_code 98 = .ok (.goto (-31), 3) := by decide +kernel
theorem d_M_isFree_101 : decode prog_14_method_51_code 101 = .ok (.iconst 1, 1) := by decide +kernel
theorem d_M_isFree_102 : decode prog_14_method_51_code 102 = .ok (.ireturn, 1) := by decide +kernel
theorem d_M_wanted_0 : decode prog_14_method_52_code 0 = .ok (.iconst 0, 1) := by decide +kernel
theorem d_M_wanted_1 : decode prog_14_method_52_code 1 = .ok (.istore_n 2, 1) := by decide +kernel
theorem d_M_wanted_2 : decode prog_14_method_52_code 2 = .ok (.iconst 0, 1) := by decide +kernel
theorem d_M_wanted_3 : decode prog_14_method_52_code 3 = .ok (.istore_n 3, 1) := by decide +kernel
theorem d_M_wanted_4 : decode prog_14_method_52_code 4 = .ok (.iload_n 3, 1) := by decide +kernel
theorem d_M_wanted_5 : decode prog_14_method_52_code 5 = .ok (.aload_n 0, 1) := by decide +kernel
theorem d_M_wanted_6 : decode prog_14_method_52_code 6 = .ok (.getfield 161, 3) := by decide +kernel
theorem d_M_wanted_9 : decode prog_14_method_52_code 9 = .ok (.if_icmp .ge 57, 3) := by decide +kernel
theorem d_M_wanted_12 : decode prog_14_method_52_code 12 = .ok (.aload_n 0, 1) := by decide +kernel
theorem d_M_wanted_13 : decode prog_14_method_52_code 13 = .ok (.aload_n 0, 1) := by decide +kernel
theorem d_M_wanted_14 : decode prog_14_method_52_code 14 = .ok (.getfield 13, 3) := by decide +kernel
theorem d_M_wanted_17 : decode prog_14_method_52_code 17 = .ok (.iload_n 3, 1) := by decide +kernel
theorem d_M_wanted_18 : decode prog_14_method_52_code 18 = .ok (.iaload, 1) := by decide +kernel
theorem d_M_wanted_19 : decode prog_14_method_52_code 19 = .ok (.invokevirtual 193, 3) := by decide +kernel
theorem d_M_wanted_22 : decode prog_14_method_52_code 22 = .ok (.iconst (-1), 1) := by decide +kernel
theorem d_M_wanted_23 : decode prog_14_method_52_code 23 = .ok (.if_icmp .ne 37, 3) := by decide +kernel
theorem d_M_wanted_26 : decode prog_14_method_52_code 26 = .ok (.aload_n 0, 1) := by decide +kernel
theorem d_M_wanted_27 : decode prog_14_method_52_code 27 = .ok (.iload_n 3, 1) := by decide +kernel
theorem d_M_wanted_28 : decode prog_14_method_52_code 28 = .ok (.invokevirtual 187, 3) := by decide +kernel
theorem d_M_wanted_31 : decode prog_14_method_52_code 31 = .ok (.iconst (-1), 1) := by decide +kernel
theorem d_M_wanted_32 : decode prog_14_method_52_code 32 = .ok (.if_icmp .eq 28, 3) := by decide +kernel
theorem d_M_wanted_35 : decode prog_14_method_52_code 35 = .ok (.aload_n 0, 1) := by decide +kernel
theorem d_M_wanted_36 : decode prog_14_method_52_code 36 = .ok (.iload_n 3, 1) := by decide +kernel
theorem d_M_wanted_37 : decode prog_14_method_52_code 37 = .ok (.invokevirtual 187, 3) := by decide +kernel
theorem d_M_wanted_40 : decode prog_14_method_52_code 40 = .ok (.aload_n 0, 1) := by decide +kernel
theorem d_M_wanted_41 : decode prog_14_method_52_code 41 = .ok (.iload_n 1, 1) := by decide +kernel
theorem d_M_wanted_42 : decode prog_14_method_52_code 42 = .ok (.aload_n 0, 1) := by decide +kernel
theorem d_M_wanted_43 : decode prog_14_method_52_code 43 = .ok (.getfield 13, 3) := by decide +kernel
theorem d_M_wanted_46 : decode prog_14_method_52_code 46 = .ok (.iload_n 3, 1) := by decide +kernel
theorem d_M_wanted_47 : decode prog_14_method_52_code 47 = .ok (.iaload, 1) := by decide +kernel
theorem d_M_wanted_48 : decode prog_14_method_52_code 48 = .ok (.invokevirtual 318, 3) := by decide +kernel
theorem d_M_wanted_51 : decode prog_14_method_52_code 51 = .ok (.if_icmp .ge 9, 3) := by decide +kernel
theorem d_M_wanted_54 : decode prog_14_method_52_code 54 = .ok (.iload_n 2, 1) := by decide +kernel
theorem d_M_wanted_55 : decode prog_14_method_52_code 55 = .ok (.iconst 1, 1) := by decide +kernel
theorem d_M_wanted_56 : decode prog_14_method_52_code 56 = .ok (.iload_n 3, 1) := by decide +kernel
theorem d_M_wanted_57 : decode prog_14_method_52_code 57 = .ok (.ishl, 1) := by decide +kernel
theorem d_M_wanted_58 : decode prog_14_method_52_code 58 = .ok (.ior, 1) := by decide +kernel
theorem d_M_wanted_59 : decode prog_14_method_52_code 59 = .ok (.istore_n 2, 1) := by decide +kernel
theorem d_M_wanted_60 : decode prog_14_method_52_code 60 = .ok (.iinc 3 1, 3) := by decide +kernel
theorem d_M_wanted_63 : decode prog_14_method_52_code 63 = .ok (.goto (-59), 3) := by decide +kernel
theorem d_M_wanted_66 : decode prog_14_method_52_code 66 = .ok (.iload_n 2, 1) := by decide +kernel
theorem d_M_wanted_67 : decode prog_14_method_52_code 67 = .ok (.ireturn, 1) := by decide +kernel
theorem d_M_breaking_0 : decode prog_14_method_53_code 0 = .ok (.iload_n 1, 1) := by decide +kernel
theorem d_M_breaking_1 : decode prog_14_method_53_code 1 = .ok (.aload_n 0, 1) := by decide +kernel
theorem d_M_breaking_2 : decode prog_14_method_53_code 2 = .ok (.iload_n 2, 1) := by decide +kernel
theorem d_M_breaking_3 : decode prog_14_method_53_code 3 = .ok (.invokevirtual 306, 3) := by decide +kernel
theorem d_M_breaking_6 : decode prog_14_method_53_code 6 = .ok (.iand, 1) := by decide +kernel
theorem d_M_breaking_7 : decode prog_14_method_53_code 7 = .ok (.istore 4, 2) := by decide +kernel
theorem d_M_breaking_9 : decode prog_14_method_53_code 9 = .ok (.iload 4, 2) := by decide +kernel
theorem d_M_breaking_11 : decode prog_14_method_53_code 11 = .ok (.iload_n 3, 1) := by decide +kernel
theorem d_M_breaking_12 : decode prog_14_method_53_code 12 = .ok (.aload_n 0, 1) := by decide +kernel
theorem d_M_breaking_13 : decode prog_14_method_53_code 13 = .ok (.iload_n 2, 1) := by decide +kernel
theorem d_M_breaking_14 : decode prog_14_method_53_code 14 = .ok (.invokevirtual 306, 3) := by decide +kernel
theorem d_M_breaking_17 : decode prog_14_method_53_code 17 = .ok (.iand, 1) := by decide +kernel
theorem d_M_breaking_18 : decode prog_14_method_53_code 18 = .ok (.ior, 1) := by decide +kernel
theorem d_M_breaking_19 : decode prog_14_method_53_code 19 = .ok (.istore 5, 2) := by decide +kernel
theorem d_M_breaking_21 : decode prog_14_method_53_code 21 = .ok (.iconst 0, 1) := by decide +kernel
theorem d_M_breaking_22 : decode prog_14_method_53_code 22 = .ok (.istore 6, 2) := by decide +kernel
theorem d_M_breaking_24 : decode prog_14_method_53_code 24 = .ok (.iload 6, 2) := by decide +kernel
theorem d_M_breaking_26 : decode prog_14_method_53_code 26 = .ok (.iload 4, 2) := by decide +kernel
theorem d_M_breaking_28 : decode prog_14_method_53_code 28 = .ok (.if_icmp .eq 21, 3) := by decide +kernel
theorem d_M_breaking_31 : decode prog_14_method_53_code 31 = .ok (.aload_n 0, 1) := by decide +kernel
theorem d_M_breaking_32 : decode prog_14_method_53_code 32 = .ok (.iload_n 2, 1) := by decide +kernel
theorem d_M_breaking_33 : decode prog_14_method_53_code 33 = .ok (.iload 4, 2) := by decide +kernel
theorem d_M_breaking_35 : decode prog_14_method_53_code 35 = .ok (.iload 6, 2) := by decide +kernel
theorem d_M_breaking_37 : decode prog_14_method_53_code 37 = .ok (.ior, 1) := by decide +kernel
theorem d_M_breaking_38 : decode prog_14_method_53_code 38 = .ok (.invokevirtual 303, 3) := by decide +kernel
theorem d_M_breaking_41 : decode prog_14_method_53_code 41 = .ok (.iload 6, 2) := by decide +kernel
theorem d_M_breaking_43 : decode prog_14_method_53_code 43 = .ok (.if_icmp .ne 6, 3) := by decide +kernel
theorem d_M_breaking_46 : decode prog_14_method_53_code 46 = .ok (.iload 6, 2) := by decide +kernel
theorem d_M_breaking_48 : decode prog_14_method_53_code 48 = .ok (.ireturn, 1) := by decide +kernel
theorem d_M_breaking_49 : decode prog_14_method_53_code 49 = .ok (.iload 6, 2) := by decide +kernel
theorem d_M_breaking_51 : decode prog_14_method_53_code 51 = .ok (.iload 5, 2) := by decide +kernel
theorem d_M_breaking_53 : decode prog_14_method_53_code 53 = .ok (.if_icmp .ne 5, 3) := by decide +kernel
theorem d_M_breaking_56 : decode prog_14_method_53_code 56 = .ok (.iconst (-1), 1) := by decide +kernel
theorem d_M_breaking_57 : decode prog_14_method_53_code 57 = .ok (.ireturn, 1) := by decide +kernel
theorem d_M_breaking_58 : decode prog_14_method_53_code 58 = .ok (.iload 6, 2) := by decide +kernel
theorem d_M_breaking_60 : decode prog_14_method_53_code 60 = .ok (.iload 5, 2) := by decide +kernel
theorem d_M_breaking_62 : decode prog_14_method_53_code 62 = .ok (.isub, 1) := by decide +kernel
theorem d_M_breaking_63 : decode prog_14_method_53_code 63 = .ok (.iload 5, 2) := by decide +kernel
theorem d_M_breaking_65 : decode prog_14_method_53_code 65 = .ok (.iand, 1) := by decide +kernel
theorem d_M_breaking_66 : decode prog_14_method_53_code 66 = .ok (.istore 6, 2) := by decide +kernel
theorem d_M_breaking_68 : decode prog_14_method_53_code 68 = .ok (.goto (-44), 3) := by decide +kernel
theorem d_M_breakingPair_0 : decode prog_14_method_54_code 0 = .ok (.iload_n 1, 1) := by decide +kernel
theorem d_M_breakingPair_1 : decode prog_14_method_54_code 1 = .ok (.istore_n 3, 1) := by decide +kernel
theorem d_M_breakingPair_2 : decode prog_14_method_54_code 2 = .ok (.iconst 0, 1) := by decide +kernel
theorem d_M_breakingPair_3 : decode prog_14_method_54_code 3 = .ok (.istore 4, 2) := by decide +kernel
theorem d_M_breakingPair_5 : decode prog_14_method_54_code 5 = .ok (.iload 4, 2) := by decide +kernel
theorem d_M_breakingPair_7 : decode prog_14_method_54_code 7 = .ok (.aload_n 0, 1) := by decide +kernel
theorem d_M_breakingPair_8 : decode prog_14_method_54_code 8 = .ok (.getfield 161, 3) := by decide +kernel
theorem d_M_breakingPair_11 : decode prog_14_method_54_code 11 = .ok (.if_icmp .ge 33, 3) := by decide +kernel
theorem d_M_breakingPair_14 : decode prog_14_method_54_code 14 = .ok (.aload_n 0, 1) := by decide +kernel
theorem d_M_breakingPair_15 : decode prog_14_method_54_code 15 = .ok (.aload_n 0, 1) := by decide +kernel
theorem d_M_breakingPair_16 : decode prog_14_method_54_code 16 = .ok (.getfield 13, 3) := by decide +kernel
theorem d_M_breakingPair_19 : decode prog_14_method_54_code 19 = .ok (.iload 4, 2) := by decide +kernel
theorem d_M_breakingPair_21 : decode prog_14_method_54_code 21 = .ok (.iaload, 1) := by decide +kernel
theorem d_M_breakingPair_22 : decode prog_14_method_54_code 22 = .ok (.invokevirtual 193, 3) := by decide +kernel
theorem d_M_breakingPair_25 : decode prog_14_method_54_code 25 = .ok (.iload_n 2, 1) := by decide +kernel
theorem d_M_breakingPair_26 : decode prog_14_method_54_code 26 = .ok (.if_icmp .ne 12, 3) := by decide +kernel
theorem d_M_breakingPair_29 : decode prog_14_method_54_code 29 = .ok (.iload_n 3, 1) := by decide +kernel
theorem d_M_breakingPair_30 : decode prog_14_method_54_code 30 = .ok (.iconst 1, 1) := by decide +kernel
theorem d_M_breakingPair_31 : decode prog_14_method_54_code 31 = .ok (.iload 4, 2) := by decide +kernel
theorem d_M_breakingPair_33 : decode prog_14_method_54_code 33 = .ok (.ishl, 1) := by decide +kernel
theorem d_M_breakingPair_34 : decode prog_14_method_54_code 34 = .ok (.iconst (-1), 1) := by decide +kernel
theorem d_M_breakingPair_35 : decode prog_14_method_54_code 35 = .ok (.ixor, 1) := by decide +kernel
theorem d_M_breakingPair_36 : decode prog_14_method_54_code 36 = .ok (.iand, 1) := by decide +kernel
theorem d_M_breakingPair_37 : decode prog_14_method_54_code 37 = .ok (.istore_n 3, 1) := by decide +kernel
theorem d_M_breakingPair_38 : decode prog_14_method_54_code 38 = .ok (.iinc 4 1, 3) := by decide +kernel
theorem d_M_breakingPair_41 : decode prog_14_method_54_code 41 = .ok (.goto (-36), 3) := by decide +kernel
theorem d_M_breakingPair_44 : decode prog_14_method_54_code 44 = .ok (.aload_n 0, 1) := by decide +kernel
theorem d_M_breakingPair_45 : decode prog_14_method_54_code 45 = .ok (.iload_n 1, 1) := by decide +kernel
theorem d_M_breakingPair_46 : decode prog_14_method_54_code 46 = .ok (.iload_n 2, 1) := by decide +kernel
theorem d_M_breakingPair_47 : decode prog_14_method_54_code 47 = .ok (.invokevirtual 321, 3) := by decide +kernel
theorem d_M_breakingPair_50 : decode prog_14_method_54_code 50 = .ok (.istore 4, 2) := by decide +kernel
theorem d_M_breakingPair_52 : decode prog_14_method_54_code 52 = .ok (.iconst 0, 1) := by decide +kernel
theorem d_M_breakingPair_53 : decode prog_14_method_54_code 53 = .ok (.istore 5, 2) := by decide +kernel
theorem d_M_breakingPair_55 : decode prog_14_method_54_code 55 = .ok (.iload 5, 2) := by decide +kernel
theorem d_M_breakingPair_57 : decode prog_14_method_54_code 57 = .ok (.iload 4, 2) := by decide +kernel
theorem d_M_breakingPair_59 : decode prog_14_method_54_code 59 = .ok (.if_icmp .ge 150, 3) := by decide +kernel
theorem d_M_breakingPair_62 : decode prog_14_method_54_code 62 = .ok (.aload_n 0, 1) := by decide +kernel
theorem d_M_breakingPair_63 : decode prog_14_method_54_code 63 = .ok (.getfield 40, 3) := by decide +kernel
theorem d_M_breakingPair_66 : decode prog_14_method_54_code 66 = .ok (.bipush 8, 2) := by decide +kernel
theorem d_M_breakingPair_68 : decode prog_14_method_54_code 68 = .ok (.iload_n 2, 1) := by decide +kernel
theorem d_M_breakingPair_69 : decode prog_14_method_54_code 69 = .ok (.imul, 1) := by decide +kernel
theorem d_M_breakingPair_70 : decode prog_14_method_54_code 70 = .ok (.iload 5, 2) := by decide +kernel
theorem d_M_breakingPair_72 : decode prog_14_method_54_code 72 = .ok (.iadd, 1) := by decide +kernel
theorem d_M_breakingPair_73 : decode prog_14_method_54_code 73 = .ok (.iaload, 1) := by decide +kernel
theorem d_M_breakingPair_74 : decode prog_14_method_54_code 74 = .ok (.istore 6, 2) := by decide +kernel
theorem d_M_breakingPair_76 : decode prog_14_method_54_code 76 = .ok (.aload_n 0, 1) := by decide +kernel
theorem d_M_breakingPair_77 : decode prog_14_method_54_code 77 = .ok (.getfield 43, 3) := by decide +kernel
theorem d_M_breakingPair_80 : decode prog_14_method_54_code 80 = .ok (.bipush 8, 2) := by decide +kernel
theorem d_M_breakingPair_82 : decode prog_14_method_54_code 82 = .ok (.iload_n 2, 1) := by decide +kernel
theorem d_M_breakingPair_83 : decode prog_14_method_54_code 83 = .ok (.imul, 1) := by decide +kernel
theorem d_M_breakingPair_84 : decode prog_14_method_54_code 84 = .ok (.iload 5, 2) := by decide +kernel
theorem d_M_breakingPair_86 : decode prog_14_method_54_code 86 = .ok (.iadd, 1) := by decide +kernel
theorem d_M_breakingPair_87 : decode prog_14_method_54_code 87 = .ok (.iaload, 1) := by decide +kernel
theorem d_M_breakingPair_88 : decode prog_14_method_54_code 88 = .ok (.istore 7, 2) := by decide +kernel
theorem d_M_breakingPair_90 : decode prog_14_method_54_code 90 = .ok (.iload 6, 2) := by decide +kernel
theorem d_M_breakingPair_92 : decode prog_14_method_54_code 92 = .ok (.iconst (-1), 1) := by decide +kernel
theorem d_M_breakingPair_93 : decode prog_14_method_54_code 93 = .ok (.if_icmp .ne 7, 3) := by decide +kernel
theorem d_M_breakingPair_96 : decode prog_14_method_54_code 96 = .ok (.iconst 0, 1) := by decide +kernel
theorem d_M_breakingPair_97 : decode prog_14_method_54_code 97 = .ok (.goto 7, 3) := by decide +kernel
theorem d_M_breakingPair_100 : decode prog_14_method_54_code 100 = .ok (.iconst 1, 1) := by decide +kernel
theorem d_M_breakingPair_101 : decode prog_14_method_54_code 101 = .ok (.iload 6, 2) := by decide +kernel
theorem d_M_breakingPair_103 : decode prog_14_method_54_code 103 = .ok (.ishl, 1) := by decide +kernel
theorem d_M_breakingPair_104 : decode prog_14_method_54_code 104 = .ok (.iload 7, 2) := by decide +kernel
theorem d_M_breakingPair_106 : decode prog_14_method_54_code 106 = .ok (.iconst (-1), 1) := by decide +kernel
theorem d_M_breakingPair_107 : decode prog_14_method_54_code 107 = .ok (.if_icmp .ne 7, 3) := by decide +kernel
theorem d_M_breakingPair_110 : decode prog_14_method_54_code 110 = .ok (.iconst 0, 1) := by decide +kernel
theorem d_M_breakingPair_111 : decode prog_14_method_54_code 111 = .ok (.goto 7, 3) := by decide +kernel
theorem d_M_breakingPair_114 : decode prog_14_method_54_code 114 = .ok (.iconst 1, 1) := by decide +kernel
theorem d_M_breakingPair_115 : decode prog_14_method_54_code 115 = .ok (.iload 7, 2) := by decide +kernel
theorem d_M_breakingPair_117 : decode prog_14_method_54_code 117 = .ok (.ishl, 1) := by decide +kernel
theorem d_M_breakingPair_118 : decode prog_14_method_54_code 118 = .ok (.ior, 1) := by decide +kernel
theorem d_M_breakingPair_119 : decode prog_14_method_54_code 119 = .ok (.istore 8, 2) := by decide +kernel
theorem d_M_breakingPair_121 : decode prog_14_method_54_code 121 = .ok (.iconst 1, 1) := by decide +kernel
theorem d_M_breakingPair_122 : decode prog_14_method_54_code 122 = .ok (.istore 9, 2) := by decide +kernel
theorem d_M_breakingPair_124 : decode prog_14_method_54_code 124 = .ok (.iconst 0, 1) := by decide +kernel
theorem d_M_breakingPair_125 : decode prog_14_method_54_code 125 = .ok (.istore 10, 2) := by decide +kernel
theorem d_M_breakingPair_127 : decode prog_14_method_54_code 127 = .ok (.iload 10, 2) := by decide +kernel
theorem d_M_breakingPair_129 : decode prog_14_method_54_code 129 = .ok (.aload_n 0, 1) := by decide +kernel
theorem d_M_breakingPair_130 : decode prog_14_method_54_code 130 = .ok (.getfield 158, 3) := by decide +kernel
theorem d_M_breakingPair_133 : decode prog_14_method_54_code 133 = .ok (.if_icmp .ge 62, 3) := by decide +kernel
theorem d_M_breakingPair_136 : decode prog_14_method_54_code 136 = .ok (.iload 8, 2) := by decide +kernel
theorem d_M_breakingPair_138 : decode prog_14_method_54_code 138 = .ok (.aload_n 0, 1) := by decide +kernel
theorem d_M_breakingPair_139 : decode prog_14_method_54_code 139 = .ok (.iload 10, 2) := by decide +kernel
theorem d_M_breakingPair_141 : decode prog_14_method_54_code 141 = .ok (.invokevirtual 306, 3) := by decide +kernel
theorem d_M_breakingPair_144 : decode prog_14_method_54_code 144 = .ok (.iand, 1) := by decide +kernel
theorem d_M_breakingPair_145 : decode prog_14_method_54_code 145 = .ok (.istore 11, 2) := by decide +kernel
theorem d_M_breakingPair_147 : decode prog_14_method_54_code 147 = .ok (.iload 9, 2) := by decide +kernel
theorem d_M_breakingPair_149 : decode prog_14_method_54_code 149 = .ok (.ifCond .eq 37, 3) := by decide +kernel
theorem d_M_breakingPair_152 : decode prog_14_method_54_code 152 = .ok (.iload 11, 2) := by decide +kernel
theorem d_M_breakingPair_154 : decode prog_14_method_54_code 154 = .ok (.ifCond .eq 28, 3) := by decide +kernel
theorem d_M_breakingPair_157 : decode prog_14_method_54_code 157 = .ok (.aload_n 0, 1) := by decide +kernel
theorem d_M_breakingPair_158 : decode prog_14_method_54_code 158 = .ok (.iload 10, 2) := by decide +kernel
theorem d_M_breakingPair_160 : decode prog_14_method_54_code 160 = .ok (.iload_n 3, 1) := by decide +kernel
theorem d_M_breakingPair_161 : decode prog_14_method_54_code 161 = .ok (.aload_n 0, 1) := by decide +kernel
theorem d_M_breakingPair_162 : decode prog_14_method_54_code 162 = .ok (.iload 10, 2) := by decide +kernel
theorem d_M_breakingPair_164 : decode prog_14_method_54_code 164 = .ok (.invokevirtual 306, 3) := by decide +kernel
theorem d_M_breakingPair_167 : decode prog_14_method_54_code 167 = .ok (.iand, 1) := by decide +kernel
theorem d_M_breakingPair_168 : decode prog_14_method_54_code 168 = .ok (.iload 11, 2) := by decide +kernel
theorem d_M_breakingPair_170 : decode prog_14_method_54_code 170 = .ok (.ior, 1) := by decide +kernel
theorem d_M_breakingPair_171 : decode prog_14_method_54_code 171 = .ok (.invokevirtual 303, 3) := by decide +kernel
theorem d_M_breakingPair_174 : decode prog_14_method_54_code 174 = .ok (.iload 11, 2) := by decide +kernel
theorem d_M_breakingPair_176 : decode prog_14_method_54_code 176 = .ok (.iand, 1) := by decide +kernel
theorem d_M_breakingPair_177 : decode prog_14_method_54_code 177 = .ok (.iload 11, 2) := by decide +kernel
theorem d_M_breakingPair_179 : decode prog_14_method_54_code 179 = .ok (.if_icmp .ne 7, 3) := by decide +kernel
theorem d_M_breakingPair_182 : decode prog_14_method_54_code 182 = .ok (.iconst 1, 1) := by decide +kernel
theorem d_M_breakingPair_183 : decode prog_14_method_54_code 183 = .ok (.goto 4, 3) := by decide +kernel
theorem d_M_breakingPair_186 : decode prog_14_method_54_code 186 = .ok (.iconst 0, 1) := by decide +kernel
theorem d_M_breakingPair_187 : decode prog_14_method_54_code 187 = .ok (.istore 9, 2) := by decide +kernel
theorem d_M_breakingPair_189 : decode prog_14_method_54_code 189 = .ok (.iinc 10 1, 3) := by decide +kernel
theorem d_M_breakingPair_192 : decode prog_14_method_54_code 192 = .ok (.goto (-65), 3) := by decide +kernel
theorem d_M_breakingPair_195 : decode prog_14_method_54_code 195 = .ok (.iload 9, 2) := by decide +kernel
theorem d_M_breakingPair_197 : decode prog_14_method_54_code 197 = .ok (.ifCond .eq 6, 3) := by decide +kernel
theorem d_M_breakingPair_200 : decode prog_14_method_54_code 200 = .ok (.iload 5, 2) := by decide +kernel
theorem d_M_breakingPair_202 : decode prog_14_method_54_code 202 = .ok (.ireturn, 1) := by decide +kernel
theorem d_M_breakingPair_203 : decode prog_14_method_54_code 203 = .ok (.iinc 5 1, 3) := by decide +kernel
theorem d_M_breakingPair_206 : decode prog_14_method_54_code 206 = .ok (.goto (-151), 3) := by decide +kernel
theorem d_M_breakingPair_209 : decode prog_14_method_54_code 209 = .ok (.iconst (-1), 1) := by decide +kernel
theorem d_M_breakingPair_210 : decode prog_14_method_54_code 210 = .ok (.ireturn, 1) := by decide +kernel
theorem d_M_judgeOf_0 : decode prog_14_method_55_code 0 = .ok (.aload_n 0, 1) := by decide +kernel
theorem d_M_judgeOf_1 : decode prog_14_method_55_code 1 = .ok (.iload_n 1, 1) := by decide +kernel
theorem d_M_judgeOf_2 : decode prog_14_method_55_code 2 = .ok (.invokevirtual 265, 3) := by decide +kernel
theorem d_M_judgeOf_5 : decode prog_14_method_55_code 5 = .ok (.invokestatic 268, 3) := by decide +kernel
theorem d_M_judgeOf_8 : decode prog_14_method_55_code 8 = .ok (.iload_n 1, 1) := by decide +kernel
theorem d_M_judgeOf_9 : decode prog_14_method_55_code 9 = .ok (.invokestatic 268, 3) := by decide +kernel
theorem d_M_judgeOf_12 : decode prog_14_method_55_code 12 = .ok (.if_icmp .eq 5, 3) := by decide +kernel
theorem d_M_judgeOf_15 : decode prog_14_method_55_code 15 = .ok (.iconst 1, 1) := by decide +kernel
theorem d_M_judgeOf_16 : decode prog_14_method_55_code 16 = .ok (.ireturn, 1) := by decide +kernel
theorem d_M_judgeOf_17 : decode prog_14_method_55_code 17 = .ok (.aload_n 0, 1) := by decide +kernel
theorem d_M_judgeOf_18 : decode prog_14_method_55_code 18 = .ok (.iload_n 1, 1) := by decide +kernel
theorem d_M_judgeOf_19 : decode prog_14_method_55_code 19 = .ok (.invokevirtual 324, 3) := by decide +kernel
theorem d_M_judgeOf_22 : decode prog_14_method_55_code 22 = .ok (.ifCond .ne 5, 3) := by decide +kernel
theorem d_M_judgeOf_25 : decode prog_14_method_55_code 25 = .ok (.iconst 2, 1) := by decide +kernel
theorem d_M_judgeOf_26 : decode prog_14_method_55_code 26 = .ok (.ireturn, 1) := by decide +kernel
theorem d_M_judgeOf_27 : decode prog_14_method_55_code 27 = .ok (.aload_n 0, 1) := by decide +kernel
theorem d_M_judgeOf_28 : decode prog_14_method_55_code 28 = .ok (.iload_n 1, 1) := by decide +kernel
theorem d_M_judgeOf_29 : decode prog_14_method_55_code 29 = .ok (.invokevirtual 327, 3) := by decide +kernel
theorem d_M_judgeOf_32 : decode prog_14_method_55_code 32 = .ok (.istore_n 2, 1) := by decide +kernel
theorem d_M_judgeOf_33 : decode prog_14_method_55_code 33 = .ok (.iconst 0, 1) := by decide +kernel
theorem d_M_judgeOf_34 : decode prog_14_method_55_code 34 = .ok (.istore_n 3, 1) := by decide +kernel
theorem d_M_judgeOf_35 : decode prog_14_method_55_code 35 = .ok (.iload_n 3, 1) := by decide +kernel
theorem d_M_judgeOf_36 : decode prog_14_method_55_code 36 = .ok (.aload_n 0, 1) := by decide +kernel
theorem d_M_judgeOf_37 : decode prog_14_method_55_code 37 = .ok (.getfield 158, 3) := by decide +kernel
theorem d_M_judgeOf_40 : decode prog_14_method_55_code 40 = .ok (.if_icmp .ge 40, 3) := by decide +kernel
theorem d_M_judgeOf_43 : decode prog_14_method_55_code 43 = .ok (.aload_n 0, 1) := by decide +kernel
theorem d_M_judgeOf_44 : decode prog_14_method_55_code 44 = .ok (.iload_n 1, 1) := by decide +kernel
theorem d_M_judgeOf_45 : decode prog_14_method_55_code 45 = .ok (.iload_n 3, 1) := by decide +kernel
theorem d_M_judgeOf_46 : decode prog_14_method_55_code 46 = .ok (.iload_n 2, 1) := by decide +kernel
theorem d_M_judgeOf_47 : decode prog_14_method_55_code 47 = .ok (.invokevirtual 330, 3) := by decide +kernel
theorem d_M_judgeOf_50 : decode prog_14_method_55_code 50 = .ok (.istore 4, 2) := by decide +kernel
theorem d_M_judgeOf_52 : decode prog_14_method_55_code 52 = .ok (.iload 4, 2) := by decide +kernel
theorem d_M_judgeOf_54 : decode prog_14_method_55_code 54 = .ok (.iconst (-1), 1) := by decide +kernel
theorem d_M_judgeOf_55 : decode prog_14_method_55_code 55 = .ok (.if_icmp .ne 6, 3) := by decide +kernel
theorem d_M_judgeOf_58 : decode prog_14_method_55_code 58 = .ok (.goto 16, 3) := by decide +kernel
theorem d_M_judgeOf_61 : decode prog_14_method_55_code 61 = .ok (.aload_n 0, 1) := by decide +kernel
theorem d_M_judgeOf_62 : decode prog_14_method_55_code 62 = .ok (.iload_n 3, 1) := by decide +kernel
theorem d_M_judgeOf_63 : decode prog_14_method_55_code 63 = .ok (.putfield 334, 3) := by decide +kernel
theorem d_M_judgeOf_66 : decode prog_14_method_55_code 66 = .ok (.aload_n 0, 1) := by decide +kernel
theorem d_M_judgeOf_67 : decode prog_14_method_55_code 67 = .ok (.iload 4, 2) := by decide +kernel
theorem d_M_judgeOf_69 : decode prog_14_method_55_code 69 = .ok (.putfield 337, 3) := by decide +kernel
theorem d_M_judgeOf_72 : decode prog_14_method_55_code 72 = .ok (.iconst 3, 1) := by decide +kernel
theorem d_M_judgeOf_73 : decode prog_14_method_55_code 73 = .ok (.ireturn, 1) := by decide +kernel
theorem d_M_judgeOf_74 : decode prog_14_method_55_code 74 = .ok (.iinc 3 1, 3) := by decide +kernel
theorem d_M_judgeOf_77 : decode prog_14_method_55_code 77 = .ok (.goto (-42), 3) := by decide +kernel
theorem d_M_judgeOf_80 : decode prog_14_method_55_code 80 = .ok (.iconst 0, 1) := by decide +kernel
theorem d_M_judgeOf_81 : decode prog_14_method_55_code 81 = .ok (.istore_n 3, 1) := by decide +kernel
theorem d_M_judgeOf_82 : decode prog_14_method_55_code 82 = .ok (.iload_n 3, 1) := by decide +kernel
theorem d_M_judgeOf_83 : decode prog_14_method_55_code 83 = .ok (.aload_n 0, 1) := by decide +kernel
theorem d_M_judgeOf_84 : decode prog_14_method_55_code 84 = .ok (.getfield 190, 3) := by decide +kernel
theorem d_M_judgeOf_87 : decode prog_14_method_55_code 87 = .ok (.if_icmp .ge 39, 3) := by decide +kernel
theorem d_M_judgeOf_90 : decode prog_14_method_55_code 90 = .ok (.aload_n 0, 1) := by decide +kernel
theorem d_M_judgeOf_91 : decode prog_14_method_55_code 91 = .ok (.iload_n 1, 1) := by decide +kernel
theorem d_M_judgeOf_92 : decode prog_14_method_55_code 92 = .ok (.iload_n 3, 1) := by decide +kernel
theorem d_M_judgeOf_93 : decode prog_14_method_55_code 93 = .ok (.invokevirtual 340, 3) := by decide +kernel
theorem d_M_judgeOf_96 : decode prog_14_method_55_code 96 = .ok (.istore 4, 2) := by decide +kernel
theorem d_M_judgeOf_98 : decode prog_14_method_55_code 98 = .ok (.iload 4, 2) := by decide +kernel
theorem d_M_judgeOf_100 : decode prog_14_method_55_code 100 = .ok (.iconst (-1), 1) := by decide +kernel
theorem d_M_judgeOf_101 : decode prog_14_method_55_code 101 = .ok (.if_icmp .ne 6, 3) := by decide +kernel
theorem d_M_judgeOf_104 : decode prog_14_method_55_code 104 = .ok (.goto 16, 3) := by decide +kernel
theorem d_M_judgeOf_107 : decode prog_14_method_55_code 107 = .ok (.aload_n 0, 1) := by decide +kernel
theorem d_M_judgeOf_108 : decode prog_14_method_55_code 108 = .ok (.iload_n 3, 1) := by decide +kernel
theorem d_M_judgeOf_109 : decode prog_14_method_55_code 109 = .ok (.putfield 334, 3) := by decide +kernel
theorem d_M_judgeOf_112 : decode prog_14_method_55_code 112 = .ok (.aload_n 0, 1) := by decide +kernel
theorem d_M_judgeOf_113 : decode prog_14_method_55_code 113 = .ok (.iload 4, 2) := by decide +kernel
theorem d_M_judgeOf_115 : decode prog_14_method_55_code 115 = .ok (.putfield 337, 3) := by decide +kernel
theorem d_M_judgeOf_118 : decode prog_14_method_55_code 118 = .ok (.iconst 4, 1) := by decide +kernel
theorem d_M_judgeOf_119 : decode prog_14_method_55_code 119 = .ok (.ireturn, 1) := by decide +kernel
theorem d_M_judgeOf_120 : decode prog_14_method_55_code 120 = .ok (.iinc 3 1, 3) := by decide +kernel
theorem d_M_judgeOf_123 : decode prog_14_method_55_code 123 = .ok (.goto (-41), 3) := by decide +kernel
theorem d_M_judgeOf_126 : decode prog_14_method_55_code 126 = .ok (.iconst 0, 1) := by decide +kernel
theorem d_M_judgeOf_127 : decode prog_14_method_55_code 127 = .ok (.ireturn, 1) := by decide +kernel
theorem d_M_judge_0 : decode prog_14_method_56_code 0 = .ok (.aload_n 0, 1) := by decide +kernel
theorem d_M_judge_1 : decode prog_14_method_56_code 1 = .ok (.iconst 0, 1) := by decide +kernel
theorem d_M_judge_2 : decode prog_14_method_56_code 2 = .ok (.putfield 148, 3) := by decide +kernel
theorem d_M_judge_5 : decode prog_14_method_56_code 5 = .ok (.aload_n 0, 1) := by decide +kernel
theorem d_M_judge_6 : decode prog_14_method_56_code 6 = .ok (.iload_n 1, 1) := by decide +kernel
theorem d_M_judge_7 : decode prog_14_method_56_code 7 = .ok (.invokevirtual 300, 3) := by decide +kernel
theorem d_M_judge_10 : decode prog_14_method_56_code 10 = .ok (.ifCond .ne 5, 3) := by decide +kernel
theorem d_M_judge_13 : decode prog_14_method_56_code 13 = .ok (.iconst (-1), 1) := by decide +kernel
theorem d_M_judge_14 : decode prog_14_method_56_code 14 = .ok (.ireturn, 1) := by decide +kernel
theorem d_M_judge_15 : decode prog_14_method_56_code 15 = .ok (.aload_n 0, 1) := by decide +kernel
theorem d_M_judge_16 : decode prog_14_method_56_code 16 = .ok (.iload_n 1, 1) := by decide +kernel
theorem d_M_judge_17 : decode prog_14_method_56_code 17 = .ok (.invokevirtual 343, 3) := by decide +kernel
theorem d_M_judge_20 : decode prog_14_method_56_code 20 = .ok (.istore_n 2, 1) := by decide +kernel
theorem d_M_judge_21 : decode prog_14_method_56_code 21 = .ok (.iload_n 2, 1) := by decide +kernel
theorem d_M_judge_22 : decode prog_14_method_56_code 22 = .ok (.iconst 3, 1) := by decide +kernel
theorem d_M_judge_23 : decode prog_14_method_56_code 23 = .ok (.if_icmp .ge 5, 3) := by decide +kernel
theorem d_M_judge_26 : decode prog_14_method_56_code 26 = .ok (.iload_n 2, 1) := by decide +kernel
theorem d_M_judge_27 : decode prog_14_method_56_code 27 = .ok (.ireturn, 1) := by decide +kernel
theorem d_M_judge_28 : decode prog_14_method_56_code 28 = .ok (.aload_n 0, 1) := by decide +kernel
theorem d_M_judge_29 : decode prog_14_method_56_code 29 = .ok (.iconst 0, 1) := by decide +kernel
theorem d_M_judge_30 : decode prog_14_method_56_code 30 = .ok (.putfield 170, 3) := by decide +kernel
theorem d_M_judge_33 : decode prog_14_method_56_code 33 = .ok (.aload_n 0, 1) := by decide +kernel
theorem d_M_judge_34 : decode prog_14_method_56_code 34 = .ok (.aload_n 0, 1) := by decide +kernel
theorem d_M_judge_35 : decode prog_14_method_56_code 35 = .ok (.getfield 334, 3) := by decide +kernel
theorem d_M_judge_38 : decode prog_14_method_56_code 38 = .ok (.invokevirtual 309, 3) := by decide +kernel
theorem d_M_judge_41 : decode prog_14_method_56_code 41 = .ok (.aload_n 0, 1) := by decide +kernel
theorem d_M_judge_42 : decode prog_14_method_56_code 42 = .ok (.aload_n 0, 1) := by decide +kernel
theorem d_M_judge_43 : decode prog_14_method_56_code 43 = .ok (.getfield 337, 3) := by decide +kernel
theorem d_M_judge_46 : decode prog_14_method_56_code 46 = .ok (.invokevirtual 309, 3) := by decide +kernel
theorem d_M_judge_49 : decode prog_14_method_56_code 49 = .ok (.iload_n 2, 1) := by decide +kernel
theorem d_M_judge_50 : decode prog_14_method_56_code 50 = .ok (.ireturn, 1) := by decide +kernel
theorem d_M_nextOf_0 : decode prog_14_method_57_code 0 = .ok (.iload_n 1, 1) := by decide +kernel
theorem d_M_nextOf_1 : decode prog_14_method_57_code 1 = .ok (.aload_n 0, 1) := by decide +kernel
theorem d_M_nextOf_2 : decode prog_14_method_57_code 2 = .ok (.getfield 130, 3) := by decide +kernel
theorem d_M_nextOf_5 : decode prog_14_method_57_code 5 = .ok (.if_icmp .eq 12, 3) := by decide +kernel
theorem d_M_nextOf_8 : decode prog_14_method_57_code 8 = .ok (.aload_n 0, 1) := by decide +kernel
theorem d_M_nextOf_9 : decode prog_14_method_57_code 9 = .ok (.iload_n 1, 1) := by decide +kernel
theorem d_M_nextOf_10 : decode prog_14_method_57_code 10 = .ok (.invokevirtual 193, 3) := by decide +kernel
theorem d_M_nextOf_13 : decode prog_14_method_57_code 13 = .ok (.iconst (-1), 1) := by decide +kernel
theorem d_M_nextOf_14 : decode prog_14_method_57_code 14 = .ok (.if_icmp .eq 5, 3) := by decide +kernel
theorem d_M_nextOf_17 : decode prog_14_method_57_code 17 = .ok (.iconst (-1), 1) := by decide +kernel
theorem d_M_nextOf_18 : decode prog_14_method_57_code 18 = .ok (.ireturn, 1) := by decide +kernel
theorem d_M_nextOf_19 : decode prog_14_method_57_code 19 = .ok (.iload_n 1, 1) := by decide +kernel
theorem d_M_nextOf_20 : decode prog_14_method_57_code 20 = .ok (.aload_n 0, 1) := by decide +kernel
theorem d_M_nextOf_21 : decode prog_14_method_57_code 21 = .ok (.getfield 123, 3) := by decide +kernel
theorem d_M_nextOf_24 : decode prog_14_method_57_code 24 = .ok (.if_icmp .ne 10, 3) := by decide +kernel
theorem d_M_nextOf_27 : decode prog_14_method_57_code 27 = .ok (.aload_n 0, 1) := by decide +kernel
theorem d_M_nextOf_28 : decode prog_14_method_57_code 28 = .ok (.getfield 346, 3) := by decide +kernel
theorem d_M_nextOf_31 : decode prog_14_method_57_code 31 = .ok (.goto 9, 3) := by decide +kernel
theorem d_M_nextOf_34 : decode prog_14_method_57_code 34 = .ok (.aload_n 0, 1) := by decide +kernel
theorem d_M_nextOf_35 : decode prog_14_method_57_code 35 = .ok (.getfield 31, 3) := by decide +kernel
theorem d_M_nextOf_38 : decode prog_14_method_57_code 38 = .ok (.iload_n 1, 1) := by decide +kernel
theorem d_M_nextOf_39 : decode prog_14_method_57_code 39 = .ok (.iaload, 1) := by decide +kernel
theorem d_M_nextOf_40 : decode prog_14_method_57_code 40 = .ok (.istore_n 2, 1) := by decide +kernel
theorem d_M_nextOf_41 : decode prog_14_method_57_code 41 = .ok (.aload_n 0, 1) := by decide +kernel
theorem d_M_nextOf_42 : decode prog_14_method_57_code 42 = .ok (.getfield 120, 3) := by decide +kernel
theorem d_M_nextOf_45 : decode prog_14_method_57_code 45 = .ok (.iload_n 1, 1) := by decide +kernel
theorem d_M_nextOf_46 : decode prog_14_method_57_code 46 = .ok (.iaload, 1) := by decide +kernel
theorem d_M_nextOf_47 : decode prog_14_method_57_code 47 = .ok (.iload_n 2, 1) := by decide +kernel
theorem d_M_nextOf_48 : decode prog_14_method_57_code 48 = .ok (.if_icmp .ge 64, 3) := by decide +kernel
theorem d_M_nextOf_51 : decode prog_14_method_57_code 51 = .ok (.iload_n 1, 1) := by decide +kernel
theorem d_M_nextOf_52 : decode prog_14_method_57_code 52 = .ok (.aload_n 0, 1) := by decide +kernel
theorem d_M_nextOf_53 : decode prog_14_method_57_code 53 = .ok (.getfield 123, 3) := by decide +kernel
theorem d_M_nextOf_56 : decode prog_14_method_57_code 56 = .ok (.if_icmp .ne 17, 3) := by decide +kernel
theorem d_M_nextOf_59 : decode prog_14_method_57_code 59 = .ok (.aload_n 0, 1) := by decide +kernel
theorem d_M_nextOf_60 : decode prog_14_method_57_code 60 = .ok (.getfield 127, 3) := by decide +kernel
theorem d_M_nextOf_63 : decode prog_14_method_57_code 63 = .ok (.aload_n 0, 1) := by decide +kernel
theorem d_M_nextOf_64 : decode prog_14_method_57_code 64 = .ok (.getfield 120, 3) := by decide +kernel
theorem d_M_nextOf_67 : decode prog_14_method_57_code 67 = .ok (.iload_n 1, 1) := by decide +kernel
theorem d_M_nextOf_68 : decode prog_14_method_57_code 68 = .ok (.iaload, 1) := by decide +kernel
theorem d_M_nextOf_69 : decode prog_14_method_57_code 69 = .ok (.iaload, 1) := by decide +kernel
theorem d_M_nextOf_70 : decode prog_14_method_57_code 70 = .ok (.goto 18, 3) := by decide +kernel
theorem d_M_nextOf_73 : decode prog_14_method_57_code 73 = .ok (.aload_n 0, 1) := by decide +kernel
theorem d_M_nextOf_74 : decode prog_14_method_57_code 74 = .ok (.getfield 28, 3) := by decide +kernel
theorem d_M_nextOf_77 : decode prog_14_method_57_code 77 = .ok (.iconst 5, 1) := by decide +kernel
theorem d_M_nextOf_78 : decode prog_14_method_57_code 78 = .ok (.iload_n 1, 1) := by decide +kernel
theorem d_M_nextOf_79 : decode prog_14_method_57_code 79 = .ok (.imul, 1) := by decide +kernel
theorem d_M_nextOf_80 : decode prog_14_method_57_code 80 = .ok (.aload_n 0, 1) := by decide +kernel
theorem d_M_nextOf_81 : decode prog_14_method_57_code 81 = .ok (.getfield 120, 3) := by decide +kernel
theorem d_M_nextOf_84 : decode prog_14_method_57_code 84 = .ok (.iload_n 1, 1) := by decide +kernel
theorem d_M_nextOf_85 : decode prog_14_method_57_code 85 = .ok (.iaload, 1) := by decide +kernel
theorem d_M_nextOf_86 : decode prog_14_method_57_code 86 = .ok (.iadd, 1) := by decide +kernel
theorem d_M_nextOf_87 : decode prog_14_method_57_code 87 = .ok (.iaload, 1) := by decide +kernel
theorem d_M_nextOf_88 : decode prog_14_method_57_code 88 = .ok (.istore_n 3, 1) := by decide +kernel
theorem d_M_nextOf_89 : decode prog_14_method_57_code 89 = .ok (.iload_n 3, 1) := by decide +kernel
theorem d_M_nextOf_90 : decode prog_14_method_57_code 90 = .ok (.aload_n 0, 1) := by decide +kernel
theorem d_M_nextOf_91 : decode prog_14_method_57_code 91 = .ok (.getfield 133, 3) := by decide +kernel
theorem d_M_nextOf_94 : decode prog_14_method_57_code 94 = .ok (.if_icmp .eq 5, 3) := by decide +kernel
theorem d_M_nextOf_97 : decode prog_14_method_57_code 97 = .ok (.iload_n 3, 1) := by decide +kernel
theorem d_M_nextOf_98 : decode prog_14_method_57_code 98 = .ok (.ireturn, 1) := by decide +kernel
theorem d_M_nextOf_99 : decode prog_14_method_57_code 99 = .ok (.aload_n 0, 1) := by decide +kernel
theorem d_M_nextOf_100 : decode prog_14_method_57_code 100 = .ok (.getfield 120, 3) := by decide +kernel
theorem d_M_nextOf_103 : decode prog_14_method_57_code 103 = .ok (.iload_n 1, 1) := by decide +kernel
theorem d_M_nextOf_104 : decode prog_14_method_57_code 104 = .ok (.dup2, 1) := by decide +kernel
theorem d_M_nextOf_105 : decode prog_14_method_57_code 105 = .ok (.iaload, 1) := by decide +kernel
theorem d_M_nextOf_106 : decode prog_14_method_57_code 106 = .ok (.iconst 1, 1) := by decide +kernel
theorem d_M_nextOf_107 : decode prog_14_method_57_code 107 = .ok (.iadd, 1) := by decide +kernel
theorem d_M_nextOf_108 : decode prog_14_method_57_code 108 = .ok (.iastore, 1) := by decide +kernel
theorem d_M_nextOf_109 : decode prog_14_method_57_code 109 = .ok (.goto (-68), 3) := by decide +kernel
theorem d_M_nextOf_112 : decode prog_14_method_57_code 112 = .ok (.iconst (-1), 1) := by decide +kernel
theorem d_M_nextOf_113 : decode prog_14_method_57_code 113 = .ok (.ireturn, 1) := by decide +kernel
theorem d_M_outcome_0 : decode prog_14_method_58_code 0 = .ok (.iconst 0, 1) := by decide +kernel
theorem d_M_outcome_1 : decode prog_14_method_58_code 1 = .ok (.istore_n 1, 1) := by decide +kernel
theorem d_M_outcome_2 : decode prog_14_method_58_code 2 = .ok (.iconst 0, 1) := by decide +kernel
theorem d_M_outcome_3 : decode prog_14_method_58_code 3 = .ok (.istore_n 2, 1) := by decide +kernel
theorem d_M_outcome_4 : decode prog_14_method_58_code 4 = .ok (.aload_n 0, 1) := by decide +kernel
theorem d_M_outcome_5 : decode prog_14_method_58_code 5 = .ok (.iconst 0, 1) := by decide +kernel
theorem d_M_outcome_6 : decode prog_14_method_58_code 6 = .ok (.putfield 349, 3) := by decide +kernel
theorem d_M_outcome_9 : decode prog_14_method_58_code 9 = .ok (.aload_n 0, 1) := by decide +kernel
theorem d_M_outcome_10 : decode prog_14_method_58_code 10 = .ok (.iconst 0, 1) := by decide +kernel
theorem d_M_outcome_11 : decode prog_14_method_58_code 11 = .ok (.putfield 352, 3) := by decide +kernel
theorem d_M_outcome_14 : decode prog_14_method_58_code 14 = .ok (.iconst 0, 1) := by decide +kernel
theorem d_M_outcome_15 : decode prog_14_method_58_code 15 = .ok (.istore_n 3, 1) := by decide +kernel
theorem d_M_outcome_16 : decode prog_14_method_58_code 16 = .ok (.iload_n 3, 1) := by decide +kernel
theorem d_M_outcome_17 : decode prog_14_method_58_code 17 = .ok (.aload_n 0, 1) := by decide +kernel
theorem d_M_outcome_18 : decode prog_14_method_58_code 18 = .ok (.getfield 151, 3) := by decide +kernel
theorem d_M_outcome_21 : decode prog_14_method_58_code 21 = .ok (.if_icmp .ge 16, 3) := by decide +kernel
theorem d_M_outcome_24 : decode prog_14_method_58_code 24 = .ok (.aload_n 0, 1) := by decide +kernel
theorem d_M_outcome_25 : decode prog_14_method_58_code 25 = .ok (.getfield 120, 3) := by decide +kernel
theorem d_M_outcome_28 : decode prog_14_method_58_code 28 = .ok (.iload_n 3, 1) := by decide +kernel
theorem d_M_outcome_29 : decode prog_14_method_58_code 29 = .ok (.iconst 0, 1) := by decide +kernel
theorem d_M_outcome_30 : decode prog_14_method_58_code 30 = .ok (.iastore, 1) := by decide +kernel
theorem d_M_outcome_31 : decode prog_14_method_58_code 31 = .ok (.iinc 3 1, 3) := by decide +kernel
theorem d_M_outcome_34 : decode prog_14_method_58_code 34 = .ok (.goto (-18), 3) := by decide +kernel
theorem d_M_outcome_37 : decode prog_14_method_58_code 37 = .ok (.iconst 0, 1) := by decide +kernel
theorem d_M_outcome_38 : decode prog_14_method_58_code 38 = .ok (.istore_n 3, 1) := by decide +kernel
theorem d_M_outcome_39 : decode prog_14_method_58_code 39 = .ok (.iconst 0, 1) := by decide +kernel
theorem d_M_outcome_40 : decode prog_14_method_58_code 40 = .ok (.istore 4, 2) := by decide +kernel
theorem d_M_outcome_42 : decode prog_14_method_58_code 42 = .ok (.iload 4, 2) := by decide +kernel
theorem d_M_outcome_44 : decode prog_14_method_58_code 44 = .ok (.aload_n 0, 1) := by decide +kernel
theorem d_M_outcome_45 : decode prog_14_method_58_code 45 = .ok (.getfield 151, 3) := by decide +kernel
theorem d_M_outcome_48 : decode prog_14_method_58_code 48 = .ok (.if_icmp .ge 58, 3) := by decide +kernel
theorem d_M_outcome_51 : decode prog_14_method_58_code 51 = .ok (.aload_n 0, 1) := by decide +kernel
theorem d_M_outcome_52 : decode prog_14_method_58_code 52 = .ok (.iload_n 2, 1) := by decide +kernel
theorem d_M_outcome_53 : decode prog_14_method_58_code 53 = .ok (.iload 4, 2) := by decide +kernel
theorem d_M_outcome_55 : decode prog_14_method_58_code 55 = .ok (.invokevirtual 315, 3) := by decide +kernel
theorem d_M_outcome_58 : decode prog_14_method_58_code 58 = .ok (.iconst (-1), 1) := by decide +kernel
theorem d_M_outcome_59 : decode prog_14_method_58_code 59 = .ok (.if_icmp .eq 6, 3) := by decide +kernel
theorem d_M_outcome_62 : decode prog_14_method_58_code 62 = .ok (.goto 38, 3) := by decide +kernel
theorem d_M_outcome_65 : decode prog_14_method_58_code 65 = .ok (.aload_n 0, 1) := by decide +kernel
theorem d_M_outcome_66 : decode prog_14_method_58_code 66 = .ok (.iload 4, 2) := by decide +kernel
theorem d_M_outcome_68 : decode prog_14_method_58_code 68 = .ok (.invokevirtual 355, 3) := by decide +kernel
theorem d_M_outcome_71 : decode prog_14_method_58_code 71 = .ok (.istore 5, 2) := by decide +kernel
theorem d_M_outcome_73 : decode prog_14_method_58_code 73 = .ok (.iload 5, 2) := by decide +kernel
theorem d_M_outcome_75 : decode prog_14_method_58_code 75 = .ok (.iconst (-1), 1) := by decide +kernel
theorem d_M_outcome_76 : decode prog_14_method_58_code 76 = .ok (.if_icmp .ne 6, 3) := by decide +kernel
theorem d_M_outcome_79 : decode prog_14_method_58_code 79 = .ok (.goto 21, 3) := by decide +kernel
theorem d_M_outcome_82 : decode prog_14_method_58_code 82 = .ok (.iload_n 3, 1) := by decide +kernel
theorem d_M_outcome_83 : decode prog_14_method_58_code 83 = .ok (.iconst 1, 1) := by decide +kernel
theorem d_M_outcome_84 : decode prog_14_method_58_code 84 = .ok (.iload 5, 2) := by decide +kernel
theorem d_M_outcome_86 : decode prog_14_method_58_code 86 = .ok (.ishl, 1) := by decide +kernel
theorem d_M_outcome_87 : decode prog_14_method_58_code 87 = .ok (.ior, 1) := by decide +kernel
theorem d_M_outcome_88 : decode prog_14_method_58_code 88 = .ok (.istore_n 3, 1) := by decide +kernel
theorem d_M_outcome_89 : decode prog_14_method_58_code 89 = .ok (.aload_n 0, 1) := by decide +kernel
theorem d_M_outcome_90 : decode prog_14_method_58_code 90 = .ok (.getfield 120, 3) := by decide +kernel
theorem d_M_outcome_93 : decode prog_14_method_58_code 93 = .ok (.iload 4, 2) := by decide +kernel
theorem d_M_outcome_95 : decode prog_14_method_58_code 95 = .ok (.dup2, 1) := by decide +kernel
theorem d_M_outcome_96 : decode prog_14_method_58_code 96 = .ok (.iaload, 1) := by decide +kernel
theorem d_M_outcome_97 : decode prog_14_method_58_code 97 = .ok (.iconst 1, 1) := by decide +kernel
theorem d_M_outcome_98 : decode prog_14_method_58_code 98 = .ok (.iadd, 1) := by decide +kernel
theorem d_M_outcome_99 : decode prog_14_method_58_code 99 = .ok (.iastore, 1) := by decide +kernel
theorem d_M_outcome_100 : decode prog_14_method_58_code 100 = .ok (.iinc 4 1, 3) := by decide +kernel
theorem d_M_outcome_103 : decode prog_14_method_58_code 103 = .ok (.goto (-61), 3) := by decide +kernel
theorem d_M_outcome_106 : decode prog_14_method_58_code 106 = .ok (.iload_n 3, 1) := by decide +kernel
theorem d_M_outcome_107 : decode prog_14_method_58_code 107 = .ok (.ifCond .ne 6, 3) := by decide +kernel
theorem d_M_outcome_110 : decode prog_14_method_58_code 110 = .ok (.goto 70, 3) := by decide +kernel
theorem d_M_outcome_113 : decode prog_14_method_58_code 113 = .ok (.aload_n 0, 1) := by decide +kernel
theorem d_M_outcome_114 : decode prog_14_method_58_code 114 = .ok (.dup, 1) := by decide +kernel
theorem d_M_outcome_115 : decode prog_14_method_58_code 115 = .ok (.getfield 349, 3) := by decide +kernel
theorem d_M_outcome_118 : decode prog_14_method_58_code 118 = .ok (.iconst 1, 1) := by decide +kernel
theorem d_M_outcome_119 : decode prog_14_method_58_code 119 = .ok (.iadd, 1) := by decide +kernel
theorem d_M_outcome_120 : decode prog_14_method_58_code 120 = .ok (.putfield 349, 3) := by decide +kernel
theorem d_M_outcome_123 : decode prog_14_method_58_code 123 = .ok (.aload_n 0, 1) := by decide +kernel
theorem d_M_outcome_124 : decode prog_14_method_58_code 124 = .ok (.dup, 1) := by decide +kernel
theorem d_M_outcome_125 : decode prog_14_method_58_code 125 = .ok (.getfield 352, 3) := by decide +kernel
theorem d_M_outcome_128 : decode prog_14_method_58_code 128 = .ok (.iload_n 3, 1) := by decide +kernel
theorem d_M_outcome_129 : decode prog_14_method_58_code 129 = .ok (.invokestatic 268, 3) := by decide +kernel
theorem d_M_outcome_132 : decode prog_14_method_58_code 132 = .ok (.iadd, 1) := by decide +kernel
theorem d_M_outcome_133 : decode prog_14_method_58_code 133 = .ok (.putfield 352, 3) := by decide +kernel
theorem d_M_outcome_136 : decode prog_14_method_58_code 136 = .ok (.iload_n 1, 1) := by decide +kernel
theorem d_M_outcome_137 : decode prog_14_method_58_code 137 = .ok (.iload_n 3, 1) := by decide +kernel
theorem d_M_outcome_138 : decode prog_14_method_58_code 138 = .ok (.ior, 1) := by decide +kernel
theorem d_M_outcome_139 : decode prog_14_method_58_code 139 = .ok (.istore_n 1, 1) := by decide +kernel
theorem d_M_outcome_140 : decode prog_14_method_58_code 140 = .ok (.iconst 0, 1) := by decide +kernel
theorem d_M_outcome_141 : decode prog_14_method_58_code 141 = .ok (.istore_n 2, 1) := by decide +kernel
theorem d_M_outcome_142 : decode prog_14_method_58_code 142 = .ok (.iconst 0, 1) := by decide +kernel
theorem d_M_outcome_143 : decode prog_14_method_58_code 143 = .ok (.istore 4, 2) := by decide +kernel
theorem d_M_outcome_145 : decode prog_14_method_58_code 145 = .ok (.iload 4, 2) := by decide +kernel
theorem d_M_outcome_147 : decode prog_14_method_58_code 147 = .ok (.aload_n 0, 1) := by decide +kernel
theorem d_M_outcome_148 : decode prog_14_method_58_code 148 = .ok (.getfield 158, 3) := by decide +kernel
theorem d_M_outcome_151 : decode prog_14_method_58_code 151 = .ok (.if_icmp .ge 26, 3) := by decide +kernel
theorem d_M_outcome_154 : decode prog_14_method_58_code 154 = .ok (.iload_n 2, 1) := by decide +kernel
theorem d_M_outcome_155 : decode prog_14_method_58_code 155 = .ok (.aload_n 0, 1) := by decide +kernel
theorem d_M_outcome_156 : decode prog_14_method_58_code 156 = .ok (.iload 4, 2) := by decide +kernel
theorem d_M_outcome_158 : decode prog_14_method_58_code 158 = .ok (.iload_n 1, 1) := by decide +kernel
theorem d_M_outcome_159 : decode prog_14_method_58_code 159 = .ok (.aload_n 0, 1) := by decide +kernel
theorem d_M_outcome_160 : decode prog_14_method_58_code 160 = .ok (.iload 4, 2) := by decide +kernel
theorem d_M_outcome_162 : decode prog_14_method_58_code 162 = .ok (.invokevirtual 306, 3) := by decide +kernel
theorem d_M_outcome_165 : decode prog_14_method_58_code 165 = .ok (.iand, 1) := by decide +kernel
theorem d_M_outcome_166 : decode prog_14_method_58_code 166 = .ok (.invokevirtual 303, 3) := by decide +kernel
theorem d_M_outcome_169 : decode prog_14_method_58_code 169 = .ok (.ior, 1) := by decide +kernel
theorem d_M_outcome_170 : decode prog_14_method_58_code 170 = .ok (.istore_n 2, 1) := by decide +kernel
theorem d_M_outcome_171 : decode prog_14_method_58_code 171 = .ok (.iinc 4 1, 3) := by decide +kernel
theorem d_M_outcome_174 : decode prog_14_method_58_code 174 = .ok (.goto (-29), 3) := by decide +kernel
theorem d_M_outcome_177 : decode prog_14_method_58_code 177 = .ok (.goto (-140), 3) := by decide +kernel
theorem d_M_outcome_180 : decode prog_14_method_58_code 180 = .ok (.aload_n 0, 1) := by decide +kernel
theorem d_M_outcome_181 : decode prog_14_method_58_code 181 = .ok (.iload_n 2, 1) := by decide +kernel
theorem d_M_outcome_182 : decode prog_14_method_58_code 182 = .ok (.invokevirtual 265, 3) := by decide +kernel
theorem d_M_outcome_185 : decode prog_14_method_58_code 185 = .ok (.invokestatic 268, 3) := by decide +kernel
theorem d_M_outcome_188 : decode prog_14_method_58_code 188 = .ok (.iload_n 2, 1) := by decide +kernel
theorem d_M_outcome_189 : decode prog_14_method_58_code 189 = .ok (.invokestatic 268, 3) := by decide +kernel
theorem d_M_outcome_192 : decode prog_14_method_58_code 192 = .ok (.if_icmp .ne 7, 3) := by decide +kernel
theorem d_M_outcome_195 : decode prog_14_method_58_code 195 = .ok (.iload_n 2, 1) := by decide +kernel
theorem d_M_outcome_196 : decode prog_14_method_58_code 196 = .ok (.goto 5, 3) := by decide +kernel
theorem d_M_outcome_199 : decode prog_14_method_58_code 199 = .ok (.bipush (-3), 2) := by decide +kernel
theorem d_M_outcome_201 : decode prog_14_method_58_code 201 = .ok (.ireturn, 1) := by decide +kernel
theorem d_M_offer_0 : decode prog_14_method_59_code 0 = .ok (.aload_n 0, 1) := by decide +kernel
theorem d_M_offer_1 : decode prog_14_method_59_code 1 = .ok (.iconst 0, 1) := by decide +kernel
theorem d_M_offer_2 : decode prog_14_method_59_code 2 = .ok (.putfield 148, 3) := by decide +kernel
theorem d_M_offer_5 : decode prog_14_method_59_code 5 = .ok (.aload_n 0, 1) := by decide +kernel
theorem d_M_offer_6 : decode prog_14_method_59_code 6 = .ok (.invokevirtual 358, 3) := by decide +kernel
theorem d_M_offer_9 : decode prog_14_method_59_code 9 = .ok (.istore_n 1, 1) := by decide +kernel
theorem d_M_offer_10 : decode prog_14_method_59_code 10 = .ok (.iload_n 1, 1) := by decide +kernel
theorem d_M_offer_11 : decode prog_14_method_59_code 11 = .ok (.ifCond .ge 6, 3) := by decide +kernel
theorem d_M_offer_14 : decode prog_14_method_59_code 14 = .ok (.bipush (-3), 2) := by decide +kernel
theorem d_M_offer_16 : decode prog_14_method_59_code 16 = .ok (.ireturn, 1) := by decide +kernel
theorem d_M_offer_17 : decode prog_14_method_59_code 17 = .ok (.aload_n 0, 1) := by decide +kernel
theorem d_M_offer_18 : decode prog_14_method_59_code 18 = .ok (.iconst 0, 1) := by decide +kernel
theorem d_M_offer_19 : decode prog_14_method_59_code 19 = .ok (.putfield 170, 3) := by decide +kernel
theorem d_M_offer_22 : decode prog_14_method_59_code 22 = .ok (.aload_n 0, 1) := by decide +kernel
theorem d_M_offer_23 : decode prog_14_method_59_code 23 = .ok (.aload_n 0, 1) := by decide +kernel
theorem d_M_offer_24 : decode prog_14_method_59_code 24 = .ok (.getfield 349, 3) := by decide +kernel
theorem d_M_offer_27 : decode prog_14_method_59_code 27 = .ok (.invokevirtual 309, 3) := by decide +kernel
theorem d_M_offer_30 : decode prog_14_method_59_code 30 = .ok (.aload_n 0, 1) := by decide +kernel
theorem d_M_offer_31 : decode prog_14_method_59_code 31 = .ok (.aload_n 0, 1) := by decide +kernel
theorem d_M_offer_32 : decode prog_14_method_59_code 32 = .ok (.getfield 352, 3) := by decide +kernel
theorem d_M_offer_35 : decode prog_14_method_59_code 35 = .ok (.invokevirtual 309, 3) := by decide +kernel
theorem d_M_offer_38 : decode prog_14_method_59_code 38 = .ok (.iload_n 1, 1) := by decide +kernel
theorem d_M_offer_39 : decode prog_14_method_59_code 39 = .ok (.ireturn, 1) := by decide +kernel
theorem d_M_goThrough_0 : decode prog_14_method_60_code 0 = .ok (.iload_n 3, 1) := by decide +kernel
theorem d_M_goThrough_1 : decode prog_14_method_60_code 1 = .ok (.ifCond .eq 11, 3) := by decide +kernel
theorem d_M_goThrough_4 : decode prog_14_method_60_code 4 = .ok (.aload_n 0, 1) := by decide +kernel
theorem d_M_goThrough_5 : decode prog_14_method_60_code 5 = .ok (.getfield 361, 3) := by decide +kernel
theorem d_M_goThrough_8 : decode prog_14_method_60_code 8 = .ok (.ifCond .eq 4, 3) := by decide +kernel
theorem d_M_goThrough_11 : decode prog_14_method_60_code 11 = .ok (.return_, 1) := by decide +kernel
theorem d_M_goThrough_12 : decode prog_14_method_60_code 12 = .ok (.iload_n 1, 1) := by decide +kernel
theorem d_M_goThrough_13 : decode prog_14_method_60_code 13 = .ok (.aload_n 0, 1) := by decide +kernel
theorem d_M_goThrough_14 : decode prog_14_method_60_code 14 = .ok (.getfield 151, 3) := by decide +kernel
theorem d_M_goThrough_17 : decode prog_14_method_60_code 17 = .ok (.if_icmp .ne 87, 3) := by decide +kernel
theorem d_M_goThrough_20 : decode prog_14_method_60_code 20 = .ok (.aload_n 0, 1) := by decide +kernel
theorem d_M_goThrough_21 : decode prog_14_method_60_code 21 = .ok (.iload_n 2, 1) := by decide +kernel
theorem d_M_goThrough_22 : decode prog_14_method_60_code 22 = .ok (.invokevirtual 343, 3) := by decide +kernel
theorem d_M_goThrough_25 : decode prog_14_method_60_code 25 = .ok (.ifCond .eq 4, 3) := by decide +kernel
theorem d_M_goThrough_28 : decode prog_14_method_60_code 28 = .ok (.return_, 1) := by decide +kernel
theorem d_M_goThrough_29 : decode prog_14_method_60_code 29 = .ok (.aload_n 0, 1) := by decide +kernel
theorem d_M_goThrough_30 : decode prog_14_method_60_code 30 = .ok (.iconst 1, 1) := by decide +kernel
theorem d_M_goThrough_31 : decode prog_14_method_60_code 31 = .ok (.putfield 361, 3) := by decide +kernel
theorem d_M_goThrough_34 : decode prog_14_method_60_code 34 = .ok (.iload_n 3, 1) := by decide +kernel
theorem d_M_goThrough_35 : decode prog_14_method_60_code 35 = .ok (.ifCond .eq 4, 3) := by decide +kernel
theorem d_M_goThrough_38 : decode prog_14_method_60_code 38 = .ok (.return_, 1) := by decide +kernel
theorem d_M_goThrough_39 : decode prog_14_method_60_code 39 = .ok (.aload_n 0, 1) := by decide +kernel
theorem d_M_goThrough_40 : decode prog_14_method_60_code 40 = .ok (.getfield 364, 3) := by decide +kernel
theorem d_M_goThrough_43 : decode prog_14_method_60_code 43 = .ok (.istore 4, 2) := by decide +kernel
theorem d_M_goThrough_45 : decode prog_14_method_60_code 45 = .ok (.aload_n 0, 1) := by decide +kernel
theorem d_M_goThrough_46 : decode prog_14_method_60_code 46 = .ok (.dup, 1) := by decide +kernel
theorem d_M_goThrough_47 : decode prog_14_method_60_code 47 = .ok (.getfield 364, 3) := by decide +kernel
theorem d_M_goThrough_50 : decode prog_14_method_60_code 50 = .ok (.iconst 1, 1) := by decide +kernel
theorem d_M_goThrough_51 : decode prog_14_method_60_code 51 = .ok (.iadd, 1) := by decide +kernel
theorem d_M_goThrough_52 : decode prog_14_method_60_code 52 = .ok (.putfield 364, 3) := by decide +kernel
theorem d_M_goThrough_55 : decode prog_14_method_60_code 55 = .ok (.iload 4, 2) := by decide +kernel
theorem d_M_goThrough_57 : decode prog_14_method_60_code 57 = .ok (.ifCond .le 38, 3) := by decide +kernel
theorem d_M_goThrough_60 : decode prog_14_method_60_code 60 = .ok (.aload_n 0, 1) := by decide +kernel
theorem d_M_goThrough_61 : decode prog_14_method_60_code 61 = .ok (.getfield 136, 3) := by decide +kernel
theorem d_M_goThrough_64 : decode prog_14_method_60_code 64 = .ok (.iload 4, 2) := by decide +kernel
theorem d_M_goThrough_66 : decode prog_14_method_60_code 66 = .ok (.iconst 1, 1) := by decide +kernel
theorem d_M_goThrough_67 : decode prog_14_method_60_code 67 = .ok (.isub, 1) := by decide +kernel
theorem d_M_goThrough_68 : decode prog_14_method_60_code 68 = .ok (.iaload, 1) := by decide +kernel
theorem d_M_goThrough_69 : decode prog_14_method_60_code 69 = .ok (.iload_n 2, 1) := by decide +kernel
theorem d_M_goThrough_70 : decode prog_14_method_60_code 70 = .ok (.if_icmp .le 25, 3) := by decide +kernel
theorem d_M_goThrough_73 : decode prog_14_method_60_code 73 = .ok (.aload_n 0, 1) := by decide +kernel
theorem d_M_goThrough_74 : decode prog_14_method_60_code 74 = .ok (.getfield 136, 3) := by decide +kernel
theorem d_M_goThrough_77 : decode prog_14_method_60_code 77 = .ok (.iload 4, 2) := by decide +kernel
theorem d_M_goThrough_79 : decode prog_14_method_60_code 79 = .ok (.aload_n 0, 1) := by decide +kernel
theorem d_M_goThrough_80 : decode prog_14_method_60_code 80 = .ok (.getfield 136, 3) := by decide +kernel
theorem d_M_goThrough_83 : decode prog_14_method_60_code 83 = .ok (.iload 4, 2) := by decide +kernel
theorem d_M_goThrough_85 : decode prog_14_method_60_code 85 = .ok (.iconst 1, 1) := by decide +kernel
theorem d_M_goThrough_86 : decode prog_14_method_60_code 86 = .ok (.isub, 1) := by decide +kernel
theorem d_M_goThrough_87 : decode prog_14_method_60_code 87 = .ok (.iaload, 1) := by decide +kernel
theorem d_M_goThrough_88 : decode prog_14_method_60_code 88 = .ok (.iastore, 1) := by decide +kernel
theorem d_M_goThrough_89 : decode prog_14_method_60_code 89 = .ok (.iinc 4 (-1), 3) := by decide +kernel
theorem d_M_goThrough_92 : decode prog_14_method_60_code 92 = .ok (.goto (-37), 3) := by decide +kernel
theorem d_M_goThrough_95 : decode prog_14_method_60_code 95 = .ok (.aload_n 0, 1) := by decide +kernel
theorem d_M_goThrough_96 : decode prog_14_method_60_code 96 = .ok (.getfield 136, 3) := by decide +kernel
theorem d_M_goThrough_99 : decode prog_14_method_60_code 99 = .ok (.iload 4, 2) := by decide +kernel
theorem d_M_goThrough_101 : decode prog_14_method_60_code 101 = .ok (.iload_n 2, 1) := by decide +kernel
theorem d_M_goThrough_102 : decode prog_14_method_60_code 102 = .ok (.iastore, 1) := by decide +kernel
theorem d_M_goThrough_103 : decode prog_14_method_60_code 103 = .ok (.return_, 1) := by decide +kernel
theorem d_M_goThrough_104 : decode prog_14_method_60_code 104 = .ok (.aload_n 0, 1) := by decide +kernel
theorem d_M_goThrough_105 : decode prog_14_method_60_code 105 = .ok (.iload_n 1, 1) := by decide +kernel
theorem d_M_goThrough_106 : decode prog_14_method_60_code 106 = .ok (.iconst 1, 1) := by decide +kernel
theorem d_M_goThrough_107 : decode prog_14_method_60_code 107 = .ok (.iadd, 1) := by decide +kernel
theorem d_M_goThrough_108 : decode prog_14_method_60_code 108 = .ok (.iload_n 2, 1) := by decide +kernel
theorem d_M_goThrough_109 : decode prog_14_method_60_code 109 = .ok (.iload_n 3, 1) := by decide +kernel
theorem d_M_goThrough_110 : decode prog_14_method_60_code 110 = .ok (.invokevirtual 367, 3) := by decide +kernel
theorem d_M_goThrough_113 : decode prog_14_method_60_code 113 = .ok (.iconst 0, 1) := by decide +kernel
theorem d_M_goThrough_114 : decode prog_14_method_60_code 114 = .ok (.istore 4, 2) := by decide +kernel
theorem d_M_goThrough_116 : decode prog_14_method_60_code 116 = .ok (.iload 4, 2) := by decide +kernel
theorem d_M_goThrough_118 : decode prog_14_method_60_code 118 = .ok (.aload_n 0, 1) := by decide +kernel
theorem d_M_goThrough_119 : decode prog_14_method_60_code 119 = .ok (.getfield 161, 3) := by decide +kernel
theorem d_M_goThrough_122 : decode prog_14_method_60_code 122 = .ok (.if_icmp .ge 53, 3) := by decide +kernel
theorem d_M_goThrough_125 : decode prog_14_method_60_code 125 = .ok (.aload_n 0, 1) := by decide +kernel
theorem d_M_goThrough_126 : decode prog_14_method_60_code 126 = .ok (.getfield 13, 3) := by decide +kernel
theorem d_M_goThrough_129 : decode prog_14_method_60_code 129 = .ok (.iload 4, 2) := by decide +kernel
theorem d_M_goThrough_131 : decode prog_14_method_60_code 131 = .ok (.iaload, 1) := by decide +kernel
theorem d_M_goThrough_132 : decode prog_14_method_60_code 132 = .ok (.iload_n 1, 1) := by decide +kernel
theorem d_M_goThrough_133 : decode prog_14_method_60_code 133 = .ok (.if_icmp .ne 36, 3) := by decide +kernel
theorem d_M_goThrough_136 : decode prog_14_method_60_code 136 = .ok (.aload_n 0, 1) := by decide +kernel
theorem d_M_goThrough_137 : decode prog_14_method_60_code 137 = .ok (.iload 4, 2) := by decide +kernel
theorem d_M_goThrough_139 : decode prog_14_method_60_code 139 = .ok (.invokevirtual 187, 3) := by decide +kernel
theorem d_M_goThrough_142 : decode prog_14_method_60_code 142 = .ok (.iconst (-1), 1) := by decide +kernel
theorem d_M_goThrough_143 : decode prog_14_method_60_code 143 = .ok (.if_icmp .ne 12, 3) := by decide +kernel
theorem d_M_goThrough_146 : decode prog_14_method_60_code 146 = .ok (.aload_n 0, 1) := by decide +kernel
theorem d_M_goThrough_147 : decode prog_14_method_60_code 147 = .ok (.iload_n 1, 1) := by decide +kernel
theorem d_M_goThrough_148 : decode prog_14_method_60_code 148 = .ok (.invokevirtual 193, 3) := by decide +kernel
theorem d_M_goThrough_151 : decode prog_14_method_60_code 151 = .ok (.iconst (-1), 1) := by decide +kernel
theorem d_M_goThrough_152 : decode prog_14_method_60_code 152 = .ok (.if_icmp .eq 17, 3) := by decide +kernel
theorem d_M_goThrough_155 : decode prog_14_method_60_code 155 = .ok (.aload_n 0, 1) := by decide +kernel
theorem d_M_goThrough_156 : decode prog_14_method_60_code 156 = .ok (.iload_n 1, 1) := by decide +kernel
theorem d_M_goThrough_157 : decode prog_14_method_60_code 157 = .ok (.iconst 1, 1) := by decide +kernel
theorem d_M_goThrough_158 : decode prog_14_method_60_code 158 = .ok (.iadd, 1) := by decide +kernel
theorem d_M_goThrough_159 : decode prog_14_method_60_code 159 = .ok (.iload_n 2, 1) := by decide +kernel
theorem d_M_goThrough_160 : decode prog_14_method_60_code 160 = .ok (.iconst 1, 1) := by decide +kernel
theorem d_M_goThrough_161 : decode prog_14_method_60_code 161 = .ok (.iload 4, 2) := by decide +kernel
theorem d_M_goThrough_163 : decode prog_14_method_60_code 163 = .ok (.ishl, 1) := by decide +kernel
theorem d_M_goThrough_164 : decode prog_14_method_60_code 164 = .ok (.ior, 1) := by decide +kernel
theorem d_M_goThrough_165 : decode prog_14_method_60_code 165 = .ok (.iload_n 3, 1) := by decide +kernel
theorem d_M_goThrough_166 : decode prog_14_method_60_code 166 = .ok (.invokevirtual 367, 3) := by decide +kernel
theorem d_M_goThrough_169 : decode prog_14_method_60_code 169 = .ok (.iinc 4 1, 3) := by decide +kernel
theorem d_M_goThrough_172 : decode prog_14_method_60_code 172 = .ok (.goto (-56), 3) := by decide +kernel
theorem d_M_goThrough_175 : decode prog_14_method_60_code 175 = .ok (.return_, 1) := by decide +kernel
theorem d_M_findAll_0 : decode prog_14_method_61_code 0 = .ok (.aload_n 0, 1) := by decide +kernel
theorem d_M_findAll_1 : decode prog_14_method_61_code 1 = .ok (.iconst 0, 1) := by decide +kernel
theorem d_M_findAll_2 : decode prog_14_method_61_code 2 = .ok (.putfield 364, 3) := by decide +kernel
theorem d_M_findAll_5 : decode prog_14_method_61_code 5 = .ok (.aload_n 0, 1) := by decide +kernel
theorem d_M_findAll_6 : decode prog_14_method_61_code 6 = .ok (.iconst 0, 1) := by decide +kernel
theorem d_M_findAll_7 : decode prog_14_method_61_code 7 = .ok (.putfield 361, 3) := by decide +kernel
theorem d_M_findAll_10 : decode prog_14_method_61_code 10 = .ok (.aload_n 0, 1) := by decide +kernel
theorem d_M_findAll_11 : decode prog_14_method_61_code 11 = .ok (.iconst 0, 1) := by decide +kernel
theorem d_M_findAll_12 : decode prog_14_method_61_code 12 = .ok (.iconst 0, 1) := by decide +kernel
theorem d_M_findAll_13 : decode prog_14_method_61_code 13 = .ok (.iconst 0, 1) := by decide +kernel
theorem d_M_findAll_14 : decode prog_14_method_61_code 14 = .ok (.invokevirtual 367, 3) := by decide +kernel
theorem d_M_findAll_17 : decode prog_14_method_61_code 17 = .ok (.return_, 1) := by decide +kernel
theorem d_M_all_0 : decode prog_14_method_62_code 0 = .ok (.aload_n 0, 1) := by decide +kernel
theorem d_M_all_1 : decode prog_14_method_62_code 1 = .ok (.iconst 0, 1) := by decide +kernel
theorem d_M_all_2 : decode prog_14_method_62_code 2 = .ok (.putfield 148, 3) := by decide +kernel
theorem d_M_all_5 : decode prog_14_method_62_code 5 = .ok (.aload_n 0, 1) := by decide +kernel
theorem d_M_all_6 : decode prog_14_method_62_code 6 = .ok (.invokevirtual 371, 3) := by decide +kernel
theorem d_M_all_9 : decode prog_14_method_62_code 9 = .ok (.aload_n 0, 1) := by decide +kernel
theorem d_M_all_10 : decode prog_14_method_62_code 10 = .ok (.iconst 0, 1) := by decide +kernel
theorem d_M_all_11 : decode prog_14_method_62_code 11 = .ok (.putfield 170, 3) := by decide +kernel
theorem d_M_all_14 : decode prog_14_method_62_code 14 = .ok (.iconst 0, 1) := by decide +kernel
theorem d_M_all_15 : decode prog_14_method_62_code 15 = .ok (.istore_n 1, 1) := by decide +kernel
theorem d_M_all_16 : decode prog_14_method_62_code 16 = .ok (.iload_n 1, 1) := by decide +kernel
theorem d_M_all_17 : decode prog_14_method_62_code 17 = .ok (.aload_n 0, 1) := by decide +kernel
theorem d_M_all_18 : decode prog_14_method_62_code 18 = .ok (.getfield 364, 3) := by decide +kernel
theorem d_M_all_21 : decode prog_14_method_62_code 21 = .ok (.if_icmp .ge 25, 3) := by decide +kernel
theorem d_M_all_24 : decode prog_14_method_62_code 24 = .ok (.iload_n 1, 1) := by decide +kernel
theorem d_M_all_25 : decode prog_14_method_62_code 25 = .ok (.bipush 40, 2) := by decide +kernel
theorem d_M_all_27 : decode prog_14_method_62_code 27 = .ok (.if_icmp .ge 19, 3) := by decide +kernel
theorem d_M_all_30 : decode prog_14_method_62_code 30 = .ok (.aload_n 0, 1) := by decide +kernel
theorem d_M_all_31 : decode prog_14_method_62_code 31 = .ok (.aload_n 0, 1) := by decide +kernel
theorem d_M_all_32 : decode prog_14_method_62_code 32 = .ok (.getfield 136, 3) := by decide +kernel
theorem d_M_all_35 : decode prog_14_method_62_code 35 = .ok (.iload_n 1, 1) := by decide +kernel
theorem d_M_all_36 : decode prog_14_method_62_code 36 = .ok (.iaload, 1) := by decide +kernel
theorem d_M_all_37 : decode prog_14_method_62_code 37 = .ok (.invokevirtual 309, 3) := by decide +kernel
theorem d_M_all_40 : decode prog_14_method_62_code 40 = .ok (.iinc 1 1, 3) := by decide +kernel
theorem d_M_all_43 : decode prog_14_method_62_code 43 = .ok (.goto (-27), 3) := by decide +kernel
theorem d_M_all_46 : decode prog_14_method_62_code 46 = .ok (.aload_n 0, 1) := by decide +kernel
theorem d_M_all_47 : decode prog_14_method_62_code 47 = .ok (.getfield 364, 3) := by decide +kernel
theorem d_M_all_50 : decode prog_14_method_62_code 50 = .ok (.ireturn, 1) := by decide +kernel
theorem d_M_isBetter_0 : decode prog_14_method_63_code 0 = .ok (.iconst 0, 1) := by decide +kernel
theorem d_M_isBetter_1 : decode prog_14_method_63_code 1 = .ok (.istore_n 3, 1) := by decide +kernel
theorem d_M_isBetter_2 : decode prog_14_method_63_code 2 = .ok (.iconst 0, 1) := by decide +kernel
theorem d_M_isBetter_3 : decode prog_14_method_63_code 3 = .ok (.istore 4, 2) := by decide +kernel
theorem d_M_isBetter_5 : decode prog_14_method_63_code 5 = .ok (.iload 4, 2) := by decide +kernel
theorem d_M_isBetter_7 : decode prog_14_method_63_code 7 = .ok (.aload_n 0, 1) := by decide +kernel
theorem d_M_isBetter_8 : decode prog_14_method_63_code 8 = .ok (.getfield 151, 3) := by decide +kernel
theorem d_M_isBetter_11 : decode prog_14_method_63_code 11 = .ok (.if_icmp .ge 68, 3) := by decide +kernel
theorem d_M_isBetter_14 : decode prog_14_method_63_code 14 = .ok (.aload_n 0, 1) := by decide +kernel
theorem d_M_isBetter_15 : decode prog_14_method_63_code 15 = .ok (.iload 4, 2) := by decide +kernel
theorem d_M_isBetter_17 : decode prog_14_method_63_code 17 = .ok (.invokevirtual 193, 3) := by decide +kernel
theorem d_M_isBetter_20 : decode prog_14_method_63_code 20 = .ok (.iconst (-1), 1) := by decide +kernel
theorem d_M_isBetter_21 : decode prog_14_method_63_code 21 = .ok (.if_icmp .eq 6, 3) := by decide +kernel
theorem d_M_isBetter_24 : decode prog_14_method_63_code 24 = .ok (.goto 49, 3) := by decide +kernel
theorem d_M_isBetter_27 : decode prog_14_method_63_code 27 = .ok (.aload_n 0, 1) := by decide +kernel
theorem d_M_isBetter_28 : decode prog_14_method_63_code 28 = .ok (.iload_n 1, 1) := by decide +kernel
theorem d_M_isBetter_29 : decode prog_14_method_63_code 29 = .ok (.iload 4, 2) := by decide +kernel
theorem d_M_isBetter_31 : decode prog_14_method_63_code 31 = .ok (.invokevirtual 318, 3) := by decide +kernel
theorem d_M_isBetter_34 : decode prog_14_method_63_code 34 = .ok (.aload_n 0, 1) := by decide +kernel
theorem d_M_isBetter_35 : decode prog_14_method_63_code 35 = .ok (.iload_n 2, 1) := by decide +kernel
theorem d_M_isBetter_36 : decode prog_14_method_63_code 36 = .ok (.iload 4, 2) := by decide +kernel
theorem d_M_isBetter_38 : decode prog_14_method_63_code 38 = .ok (.invokevirtual 318, 3) := by decide +kernel
theorem d_M_isBetter_41 : decode prog_14_method_63_code 41 = .ok (.if_icmp .le 5, 3) := by decide +kernel
theorem d_M_isBetter_44 : decode prog_14_method_63_code 44 = .ok (.iconst 0, 1) := by decide +kernel
theorem d_M_isBetter_45 : decode prog_14_method_63_code 45 = .ok (.ireturn, 1) := by decide +kernel
theorem d_M_isBetter_46 : decode prog_14_method_63_code 46 = .ok (.iload_n 3, 1) := by decide +kernel
theorem d_M_isBetter_47 : decode prog_14_method_63_code 47 = .ok (.ifCond .ne 20, 3) := by decide +kernel
theorem d_M_isBetter_50 : decode prog_14_method_63_code 50 = .ok (.aload_n 0, 1) := by decide +kernel
theorem d_M_isBetter_51 : decode prog_14_method_63_code 51 = .ok (.iload_n 1, 1) := by decide +kernel
theorem d_M_isBetter_52 : decode prog_14_method_63_code 52 = .ok (.iload 4, 2) := by decide +kernel
theorem d_M_isBetter_54 : decode prog_14_method_63_code 54 = .ok (.invokevirtual 318, 3) := by decide +kernel
theorem d_M_isBetter_57 : decode prog_14_method_63_code 57 = .ok (.aload_n 0, 1) := by decide +kernel
theorem d_M_isBetter_58 : decode prog_14_method_63_code 58 = .ok (.iload_n 2, 1) := by decide +kernel
theorem d_M_isBetter_59 : decode prog_14_method_63_code 59 = .ok (.iload 4, 2) := by decide +kernel
theorem d_M_isBetter_61 : decode prog_14_method_63_code 61 = .ok (.invokevirtual 318, 3) := by decide +kernel
theorem d_M_isBetter_64 : decode prog_14_method_63_code 64 = .ok (.if_icmp .ge 7, 3) := by decide +kernel
theorem d_M_isBetter_67 : decode prog_14_method_63_code 67 = .ok (.iconst 1, 1) := by decide +kernel
theorem d_M_isBetter_68 : decode prog_14_method_63_code 68 = .ok (.goto 4, 3) := by decide +kernel
theorem d_M_isBetter_71 : decode prog_14_method_63_code 71 = .ok (.iconst 0, 1) := by decide +kernel
theorem d_M_isBetter_72 : decode prog_14_method_63_code 72 = .ok (.istore_n 3, 1) := by decide +kernel
theorem d_M_isBetter_73 : decode prog_14_method_63_code 73 = .ok (.iinc 4 1, 3) := by decide +kernel
theorem d_M_isBetter_76 : decode prog_14_method_63_code 76 = .ok (.goto (-71), 3) := by decide +kernel
theorem d_M_isBetter_79 : decode prog_14_method_63_code 79 = .ok (.iconst 0, 1) := by decide +kernel
theorem d_M_isBetter_80 : decode prog_14_method_63_code 80 = .ok (.istore 4, 2) := by decide +kernel
theorem d_M_isBetter_82 : decode prog_14_method_63_code 82 = .ok (.iload 4, 2) := by decide +kernel
theorem d_M_isBetter_84 : decode prog_14_method_63_code 84 = .ok (.aload_n 0, 1) := by decide +kernel
theorem d_M_isBetter_85 : decode prog_14_method_63_code 85 = .ok (.getfield 190, 3) := by decide +kernel
theorem d_M_isBetter_88 : decode prog_14_method_63_code 88 = .ok (.if_icmp .ge 55, 3) := by decide +kernel
theorem d_M_isBetter_91 : decode prog_14_method_63_code 91 = .ok (.aload_n 0, 1) := by decide +kernel
theorem d_M_isBetter_92 : decode prog_14_method_63_code 92 = .ok (.iload_n 1, 1) := by decide +kernel
theorem d_M_isBetter_93 : decode prog_14_method_63_code 93 = .ok (.iload 4, 2) := by decide +kernel
theorem d_M_isBetter_95 : decode prog_14_method_63_code 95 = .ok (.invokevirtual 321, 3) := by decide +kernel
theorem d_M_isBetter_98 : decode prog_14_method_63_code 98 = .ok (.aload_n 0, 1) := by decide +kernel
theorem d_M_isBetter_99 : decode prog_14_method_63_code 99 = .ok (.iload_n 2, 1) := by decide +kernel
theorem d_M_isBetter_100 : decode prog_14_method_63_code 100 = .ok (.iload 4, 2) := by decide +kernel
theorem d_M_isBetter_102 : decode prog_14_method_63_code 102 = .ok (.invokevirtual 321, 3) := by decide +kernel
theorem d_M_isBetter_105 : decode prog_14_method_63_code 105 = .ok (.if_icmp .le 5, 3) := by decide +kernel
theorem d_M_isBetter_108 : decode prog_14_method_63_code 108 = .ok (.iconst 0, 1) := by decide +kernel
theorem d_M_isBetter_109 : decode prog_14_method_63_code 109 = .ok (.ireturn, 1) := by decide +kernel
theorem d_M_isBetter_110 : decode prog_14_method_63_code 110 = .ok (.iload_n 3, 1) := by decide +kernel
theorem d_M_isBetter_111 : decode prog_14_method_63_code 111 = .ok (.ifCond .ne 20, 3) := by decide +kernel
theorem d_M_isBetter_114 : decode prog_14_method_63_code 114 = .ok (.aload_n 0, 1) := by decide +kernel
theorem d_M_isBetter_115 : decode prog_14_method_63_code 115 = .ok (.iload_n 1, 1) := by decide +kernel
theorem d_M_isBetter_116 : decode prog_14_method_63_code 116 = .ok (.iload 4, 2) := by decide +kernel
theorem d_M_isBetter_118 : decode prog_14_method_63_code 118 = .ok (.invokevirtual 321, 3) := by decide +kernel
theorem d_M_isBetter_121 : decode prog_14_method_63_code 121 = .ok (.aload_n 0, 1) := by decide +kernel
theorem d_M_isBetter_122 : decode prog_14_method_63_code 122 = .ok (.iload_n 2, 1) := by decide +kernel
theorem d_M_isBetter_123 : decode prog_14_method_63_code 123 = .ok (.iload 4, 2) := by decide +kernel
theorem d_M_isBetter_125 : decode prog_14_method_63_code 125 = .ok (.invokevirtual 321, 3) := by decide +kernel
theorem d_M_isBetter_128 : decode prog_14_method_63_code 128 = .ok (.if_icmp .ge 7, 3) := by decide +kernel
theorem d_M_isBetter_131 : decode prog_14_method_63_code 131 = .ok (.iconst 1, 1) := by decide +kernel
theorem d_M_isBetter_132 : decode prog_14_method_63_code 132 = .ok (.goto 4, 3) := by decide +kernel
theorem d_M_isBetter_135 : decode prog_14_method_63_code 135 = .ok (.iconst 0, 1) := by decide +kernel
theorem d_M_isBetter_136 : decode prog_14_method_63_code 136 = .ok (.istore_n 3, 1) := by decide +kernel
theorem d_M_isBetter_137 : decode prog_14_method_63_code 137 = .ok (.iinc 4 1, 3) := by decide +kernel
theorem d_M_isBetter_140 : decode prog_14_method_63_code 140 = .ok (.goto (-58), 3) := by decide +kernel
theorem d_M_isBetter_143 : decode prog_14_method_63_code 143 = .ok (.iload_n 3, 1) := by decide +kernel
theorem d_M_isBetter_144 : decode prog_14_method_63_code 144 = .ok (.ireturn, 1) := by decide +kernel
theorem d_M_best_0 : decode prog_14_method_64_code 0 = .ok (.aload_n 0, 1) := by decide +kernel
theorem d_M_best_1 : decode prog_14_method_64_code 1 = .ok (.iconst 0, 1) := by decide +kernel
theorem d_M_best_2 : decode prog_14_method_64_code 2 = .ok (.putfield 148, 3) := by decide +kernel
theorem d_M_best_5 : decode prog_14_method_64_code 5 = .ok (.iload_n 1, 1) := by decide +kernel
theorem d_M_best_6 : decode prog_14_method_64_code 6 = .ok (.iconst 0, 1) := by decide +kernel
theorem d_M_best_7 : decode prog_14_method_64_code 7 = .ok (.iconst 1, 1) := by decide +kernel
theorem d_M_best_8 : decode prog_14_method_64_code 8 = .ok (.invokestatic 154, 3) := by decide +kernel
theorem d_M_best_11 : decode prog_14_method_64_code 11 = .ok (.ifCond .ne 5, 3) := by decide +kernel
theorem d_M_best_14 : decode prog_14_method_64_code 14 = .ok (.iconst (-1), 1) := by decide +kernel
theorem d_M_best_15 : decode prog_14_method_64_code 15 = .ok (.ireturn, 1) := by decide +kernel
theorem d_M_best_16 : decode prog_14_method_64_code 16 = .ok (.aload_n 0, 1) := by decide +kernel
theorem d_M_best_17 : decode prog_14_method_64_code 17 = .ok (.invokevirtual 371, 3) := by decide +kernel
theorem d_M_best_20 : decode prog_14_method_64_code 20 = .ok (.iconst 0, 1) := by decide +kernel
theorem d_M_best_21 : decode prog_14_method_64_code 21 = .ok (.istore_n 2, 1) := by decide +kernel
theorem d_M_best_22 : decode prog_14_method_64_code 22 = .ok (.iload_n 2, 1) := by decide +kernel
theorem d_M_best_23 : decode prog_14_method_64_code 23 = .ok (.aload_n 0, 1) := by decide +kernel
theorem d_M_best_24 : decode prog_14_method_64_code 24 = .ok (.getfield 364, 3) := by decide +kernel
theorem d_M_best_27 : decode prog_14_method_64_code 27 = .ok (.if_icmp .ge 103, 3) := by decide +kernel
theorem d_M_best_30 : decode prog_14_method_64_code 30 = .ok (.iconst 1, 1) := by decide +kernel
theorem d_M_best_31 : decode prog_14_method_64_code 31 = .ok (.istore_n 3, 1) := by decide +kernel
theorem d_M_best_32 : decode prog_14_method_64_code 32 = .ok (.iconst 0, 1) := by decide +kernel
theorem d_M_best_33 : decode prog_14_method_64_code 33 = .ok (.istore 4, 2) := by decide +kernel
theorem d_M_best_35 : decode prog_14_method_64_code 35 = .ok (.iload 4, 2) := by decide +kernel
theorem d_M_best_37 : decode prog_14_method_64_code 37 = .ok (.aload_n 0, 1) := by decide +kernel
theorem d_M_best_38 : decode prog_14_method_64_code 38 = .ok (.getfield 364, 3) := by decide +kernel
theorem d_M_best_41 : decode prog_14_method_64_code 41 = .ok (.if_icmp .ge 72, 3) := by decide +kernel
theorem d_M_best_44 : decode prog_14_method_64_code 44 = .ok (.iload_n 3, 1) := by decide +kernel
theorem d_M_best_45 : decode prog_14_method_64_code 45 = .ok (.ifCond .eq 68, 3) := by decide +kernel
theorem d_M_best_48 : decode prog_14_method_64_code 48 = .ok (.iload 4, 2) := by decide +kernel
theorem d_M_best_50 : decode prog_14_method_64_code 50 = .ok (.iload_n 2, 1) := by decide +kernel
theorem d_M_best_51 : decode prog_14_method_64_code 51 = .ok (.if_icmp .eq 50, 3) := by decide +kernel
theorem d_M_best_54 : decode prog_14_method_64_code 54 = .ok (.iload_n 1, 1) := by decide +kernel
theorem d_M_best_55 : decode prog_14_method_64_code 55 = .ok (.ifCond .ne 26, 3) := by decide +kernel
theorem d_M_best_58 : decode prog_14_method_64_code 58 = .ok (.aload_n 0, 1) := by decide +kernel
theorem d_M_best_59 : decode prog_14_method_64_code 59 = .ok (.aload_n 0, 1) := by decide +kernel
theorem d_M_best_60 : decode prog_14_method_64_code 60 = .ok (.getfield 136, 3) := by decide +kernel
theorem d_M_best_63 : decode prog_14_method_64_code 63 = .ok (.iload_n 2, 1) := by decide +kernel
theorem d_M_best_64 : decode prog_14_method_64_code 64 = .ok (.iaload, 1) := by decide +kernel
theorem d_M_best_65 : decode prog_14_method_64_code 65 = .ok (.aload_n 0, 1) := by decide +kernel
theorem d_M_best_66 : decode prog_14_method_64_code 66 = .ok (.getfield 136, 3) := by decide +kernel
theorem d_M_best_69 : decode prog_14_method_64_code 69 = .ok (.iload 4, 2) := by decide +kernel
theorem d_M_best_71 : decode prog_14_method_64_code 71 = .ok (.iaload, 1) := by decide +kernel
theorem d_M_best_72 : decode prog_14_method_64_code 72 = .ok (.invokevirtual 374, 3) := by decide +kernel
theorem d_M_best_75 : decode prog_14_method_64_code 75 = .ok (.ifCond .eq 30, 3) := by decide +kernel
theorem d_M_best_78 : decode prog_14_method_64_code 78 = .ok (.goto 23, 3) := by decide +kernel
theorem d_M_best_81 : decode prog_14_method_64_code 81 = .ok (.aload_n 0, 1) := by decide +kernel
theorem d_M_best_82 : decode prog_14_method_64_code 82 = .ok (.aload_n 0, 1) := by decide +kernel
theorem d_M_best_83 : decode prog_14_method_64_code 83 = .ok (.getfield 136, 3) := by decide +kernel
theorem d_M_best_86 : decode prog_14_method_64_code 86 = .ok (.iload 4, 2) := by decide +kernel
theorem d_M_best_88 : decode prog_14_method_64_code 88 = .ok (.iaload, 1) := by decide +kernel
theorem d_M_best_89 : decode prog_14_method_64_code 89 = .ok (.aload_n 0, 1) := by decide +kernel
theorem d_M_best_90 : decode prog_14_method_64_code 90 = .ok (.getfield 136, 3) := by decide +kernel
theorem d_M_best_93 : decode prog_14_method_64_code 93 = .ok (.iload_n 2, 1) := by decide +kernel
theorem d_M_best_94 : decode prog_14_method_64_code 94 = .ok (.iaload, 1) := by decide +kernel
theorem d_M_best_95 : decode prog_14_method_64_code 95 = .ok (.invokevirtual 374, 3) := by decide +kernel
theorem d_M_best_98 : decode prog_14_method_64_code 98 = .ok (.ifCond .eq 7, 3) := by decide +kernel
theorem d_M_best_101 : decode prog_14_method_64_code 101 = .ok (.iconst 1, 1) := by decide +kernel
theorem d_M_best_102 : decode prog_14_method_64_code 102 = .ok (.goto 4, 3) := by decide +kernel
theorem d_M_best_105 : decode prog_14_method_64_code 105 = .ok (.iconst 0, 1) := by decide +kernel
theorem d_M_best_106 : decode prog_14_method_64_code 106 = .ok (.istore_n 3, 1) := by decide +kernel
theorem d_M_best_107 : decode prog_14_method_64_code 107 = .ok (.iinc 4 1, 3) := by decide +kernel
theorem d_M_best_110 : decode prog_14_method_64_code 110 = .ok (.goto (-75), 3) := by decide +kernel
theorem d_M_best_113 : decode prog_14_method_64_code 113 = .ok (.iload_n 3, 1) := by decide +kernel
theorem d_M_best_114 : decode prog_14_method_64_code 114 = .ok (.ifCond .eq 10, 3) := by decide +kernel
theorem d_M_best_117 : decode prog_14_method_64_code 117 = .ok (.aload_n 0, 1) := by decide +kernel
theorem d_M_best_118 : decode prog_14_method_64_code 118 = .ok (.getfield 136, 3) := by decide +kernel
theorem d_M_best_121 : decode prog_14_method_64_code 121 = .ok (.iload_n 2, 1) := by decide +kernel
theorem d_M_best_122 : decode prog_14_method_64_code 122 = .ok (.iaload, 1) := by decide +kernel
theorem d_M_best_123 : decode prog_14_method_64_code 123 = .ok (.ireturn, 1) := by decide +kernel
theorem d_M_best_124 : decode prog_14_method_64_code 124 = .ok (.iinc 2 1, 3) := by decide +kernel
theorem d_M_best_127 : decode prog_14_method_64_code 127 = .ok (.goto (-105), 3) := by decide +kernel
theorem d_M_best_130 : decode prog_14_method_64_code 130 = .ok (.bipush (-2), 2) := by decide +kernel
theorem d_M_best_132 : decode prog_14_method_64_code 132 = .ok (.ireturn, 1) := by decide +kernel
theorem d_M_isNext_0 : decode prog_14_method_65_code 0 = .ok (.aload_n 0, 1) := by decide +kernel
theorem d_M_isNext_1 : decode prog_14_method_65_code 1 = .ok (.iload_n 1, 1) := by decide +kernel
theorem d_M_isNext_2 : decode prog_14_method_65_code 2 = .ok (.iload_n 2, 1) := by decide +kernel
theorem d_M_isNext_3 : decode prog_14_method_65_code 3 = .ok (.invokevirtual 374, 3) := by decide +kernel
theorem d_M_isNext_6 : decode prog_14_method_65_code 6 = .ok (.istore_n 3, 1) := by decide +kernel
theorem d_M_isNext_7 : decode prog_14_method_65_code 7 = .ok (.iload_n 3, 1) := by decide +kernel
theorem d_M_isNext_8 : decode prog_14_method_65_code 8 = .ok (.ifCond .ne 14, 3) := by decide +kernel
theorem d_M_isNext_11 : decode prog_14_method_65_code 11 = .ok (.aload_n 0, 1) := by decide +kernel
theorem d_M_isNext_12 : decode prog_14_method_65_code 12 = .ok (.iload_n 2, 1) := by decide +kernel
theorem d_M_isNext_13 : decode prog_14_method_65_code 13 = .ok (.iload_n 1, 1) := by decide +kernel
theorem d_M_isNext_14 : decode prog_14_method_65_code 14 = .ok (.invokevirtual 374, 3) := by decide +kernel
theorem d_M_isNext_17 : decode prog_14_method_65_code 17 = .ok (.ifCond .ne 5, 3) := by decide +kernel
theorem d_M_isNext_20 : decode prog_14_method_65_code 20 = .ok (.iconst 0, 1) := by decide +kernel
theorem d_M_isNext_21 : decode prog_14_method_65_code 21 = .ok (.ireturn, 1) := by decide +kernel
theorem d_M_isNext_22 : decode prog_14_method_65_code 22 = .ok (.iload_n 3, 1) := by decide +kernel
theorem d_M_isNext_23 : decode prog_14_method_65_code 23 = .ok (.ifCond .eq 7, 3) := by decide +kernel
theorem d_M_isNext_26 : decode prog_14_method_65_code 26 = .ok (.iload_n 1, 1) := by decide +kernel
theorem d_M_isNext_27 : decode prog_14_method_65_code 27 = .ok (.goto 4, 3) := by decide +kernel
theorem d_M_isNext_30 : decode prog_14_method_65_code 30 = .ok (.iload_n 2, 1) := by decide +kernel
theorem d_M_isNext_31 : decode prog_14_method_65_code 31 = .ok (.istore 4, 2) := by decide +kernel
theorem d_M_isNext_33 : decode prog_14_method_65_code 33 = .ok (.iload_n 3, 1) := by decide +kernel
theorem d_M_isNext_34 : decode prog_14_method_65_code 34 = .ok (.ifCond .eq 7, 3) := by decide +kernel
theorem d_M_isNext_37 : decode prog_14_method_65_code 37 = .ok (.iload_n 2, 1) := by decide +kernel
theorem d_M_isNext_38 : decode prog_14_method_65_code 38 = .ok (.goto 4, 3) := by decide +kernel
theorem d_M_isNext_41 : decode prog_14_method_65_code 41 = .ok (.iload_n 1, 1) := by decide +kernel
theorem d_M_isNext_42 : decode prog_14_method_65_code 42 = .ok (.istore 5, 2) := by decide +kernel
theorem d_M_isNext_44 : decode prog_14_method_65_code 44 = .ok (.iconst 0, 1) := by decide +kernel
theorem d_M_isNext_45 : decode prog_14_method_65_code 45 = .ok (.istore 6, 2) := by decide +kernel
theorem d_M_isNext_47 : decode prog_14_method_65_code 47 = .ok (.iload 6, 2) := by decide +kernel
theorem d_M_isNext_49 : decode prog_14_method_65_code 49 = .ok (.aload_n 0, 1) := by decide +kernel
theorem d_M_isNext_50 : decode prog_14_method_65_code 50 = .ok (.getfield 364, 3) := by decide +kernel
theorem d_M_isNext_53 : decode prog_14_method_65_code 53 = .ok (.if_icmp .ge 43, 3) := by decide +kernel
theorem d_M_isNext_56 : decode prog_14_method_65_code 56 = .ok (.aload_n 0, 1) := by decide +kernel
theorem d_M_isNext_57 : decode prog_14_method_65_code 57 = .ok (.iload 4, 2) := by decide +kernel
theorem d_M_isNext_59 : decode prog_14_method_65_code 59 = .ok (.aload_n 0, 1) := by decide +kernel
theorem d_M_isNext_60 : decode prog_14_method_65_code 60 = .ok (.getfield 136, 3) := by decide +kernel
theorem d_M_isNext_63 : decode prog_14_method_65_code 63 = .ok (.iload 6, 2) := by decide +kernel
theorem d_M_isNext_65 : decode prog_14_method_65_code 65 = .ok (.iaload, 1) := by decide +kernel
theorem d_M_isNext_66 : decode prog_14_method_65_code 66 = .ok (.invokevirtual 374, 3) := by decide +kernel
theorem d_M_isNext_69 : decode prog_14_method_65_code 69 = .ok (.ifCond .eq 21, 3) := by decide +kernel
theorem d_M_isNext_72 : decode prog_14_method_65_code 72 = .ok (.aload_n 0, 1) := by decide +kernel
theorem d_M_isNext_73 : decode prog_14_method_65_code 73 = .ok (.aload_n 0, 1) := by decide +kernel
theorem d_M_isNext_74 : decode prog_14_method_65_code 74 = .ok (.getfield 136, 3) := by decide +kernel
theorem d_M_isNext_77 : decode prog_14_method_65_code 77 = .ok (.iload 6, 2) := by decide +kernel
theorem d_M_isNext_79 : decode prog_14_method_65_code 79 = .ok (.iaload, 1) := by decide +kernel
theorem d_M_isNext_80 : decode prog_14_method_65_code 80 = .ok (.iload 5, 2) := by decide +kernel
theorem d_M_isNext_82 : decode prog_14_method_65_code 82 = .ok (.invokevirtual 374, 3) := by decide +kernel
theorem d_M_isNext_85 : decode prog_14_method_65_code 85 = .ok (.ifCond .eq 5, 3) := by decide +kernel
theorem d_M_isNext_88 : decode prog_14_method_65_code 88 = .ok (.iconst 0, 1) := by decide +kernel
theorem d_M_isNext_89 : decode prog_14_method_65_code 89 = .ok (.ireturn, 1) := by decide +kernel
theorem d_M_isNext_90 : decode prog_14_method_65_code 90 = .ok (.iinc 6 1, 3) := by decide +kernel
theorem d_M_isNext_93 : decode prog_14_method_65_code 93 = .ok (.goto (-46), 3) := by decide +kernel
theorem d_M_isNext_96 : decode prog_14_method_65_code 96 = .ok (.iconst 1, 1) := by decide +kernel
theorem d_M_isNext_97 : decode prog_14_method_65_code 97 = .ok (.ireturn, 1) := by decide +kernel
theorem d_M_steps_0 : decode prog_14_method_66_code 0 = .ok (.aload_n 0, 1) := by decide +kernel
theorem d_M_steps_1 : decode prog_14_method_66_code 1 = .ok (.iconst 0, 1) := by decide +kernel
theorem d_M_steps_2 : decode prog_14_method_66_code 2 = .ok (.putfield 148, 3) := by decide +kernel
theorem d_M_steps_5 : decode prog_14_method_66_code 5 = .ok (.aload_n 0, 1) := by decide +kernel
theorem d_M_steps_6 : decode prog_14_method_66_code 6 = .ok (.iload_n 1, 1) := by decide +kernel
theorem d_M_steps_7 : decode prog_14_method_66_code 7 = .ok (.invokevirtual 300, 3) := by decide +kernel
theorem d_M_steps_10 : decode prog_14_method_66_code 10 = .ok (.ifCond .eq 27, 3) := by decide +kernel
theorem d_M_steps_13 : decode prog_14_method_66_code 13 = .ok (.aload_n 0, 1) := by decide +kernel
theorem d_M_steps_14 : decode prog_14_method_66_code 14 = .ok (.iload_n 2, 1) := by decide +kernel
theorem d_M_steps_15 : decode prog_14_method_66_code 15 = .ok (.invokevirtual 300, 3) := by decide +kernel
theorem d_M_steps_18 : decode prog_14_method_66_code 18 = .ok (.ifCond .eq 19, 3) := by decide +kernel
theorem d_M_steps_21 : decode prog_14_method_66_code 21 = .ok (.aload_n 0, 1) := by decide +kernel
theorem d_M_steps_22 : decode prog_14_method_66_code 22 = .ok (.iload_n 1, 1) := by decide +kernel
theorem d_M_steps_23 : decode prog_14_method_66_code 23 = .ok (.invokevirtual 343, 3) := by decide +kernel
theorem d_M_steps_26 : decode prog_14_method_66_code 26 = .ok (.ifCond .ne 11, 3) := by decide +kernel
theorem d_M_steps_29 : decode prog_14_method_66_code 29 = .ok (.aload_n 0, 1) := by decide +kernel
theorem d_M_steps_30 : decode prog_14_method_66_code 30 = .ok (.iload_n 2, 1) := by decide +kernel
theorem d_M_steps_31 : decode prog_14_method_66_code 31 = .ok (.invokevirtual 343, 3) := by decide +kernel
theorem d_M_steps_34 : decode prog_14_method_66_code 34 = .ok (.ifCond .eq 5, 3) := by decide +kernel
theorem d_M_steps_37 : decode prog_14_method_66_code 37 = .ok (.iconst (-1), 1) := by decide +kernel
theorem d_M_steps_38 : decode prog_14_method_66_code 38 = .ok (.ireturn, 1) := by decide +kernel
theorem d_M_steps_39 : decode prog_14_method_66_code 39 = .ok (.aload_n 0, 1) := by decide +kernel
theorem d_M_steps_40 : decode prog_14_method_66_code 40 = .ok (.invokevirtual 371, 3) := by decide +kernel
theorem d_M_steps_43 : decode prog_14_method_66_code 43 = .ok (.iconst 0, 1) := by decide +kernel
theorem d_M_steps_44 : decode prog_14_method_66_code 44 = .ok (.istore_n 3, 1) := by decide +kernel
theorem d_M_steps_45 : decode prog_14_method_66_code 45 = .ok (.iconst 0, 1) := by decide +kernel
theorem d_M_steps_46 : decode prog_14_method_66_code 46 = .ok (.istore 4, 2) := by decide +kernel
theorem d_M_steps_48 : decode prog_14_method_66_code 48 = .ok (.iconst 0, 1) := by decide +kernel
theorem d_M_steps_49 : decode prog_14_method_66_code 49 = .ok (.istore 5, 2) := by decide +kernel
theorem d_M_steps_51 : decode prog_14_method_66_code 51 = .ok (.iload 5, 2) := by decide +kernel
theorem d_M_steps_53 : decode prog_14_method_66_code 53 = .ok (.aload_n 0, 1) := by decide +kernel
theorem d_M_steps_54 : decode prog_14_method_66_code 54 = .ok (.getfield 364, 3) := by decide +kernel
theorem d_M_steps_57 : decode prog_14_method_66_code 57 = .ok (.if_icmp .ge 54, 3) := by decide +kernel
theorem d_M_steps_60 : decode prog_14_method_66_code 60 = .ok (.aload_n 0, 1) := by decide +kernel
theorem d_M_steps_61 : decode prog_14_method_66_code 61 = .ok (.getfield 139, 3) := by decide +kernel
theorem d_M_steps_64 : decode prog_14_method_66_code 64 = .ok (.iload 5, 2) := by decide +kernel
theorem d_M_steps_66 : decode prog_14_method_66_code 66 = .ok (.aload_n 0, 1) := by decide +kernel
theorem d_M_steps_67 : decode prog_14_method_66_code 67 = .ok (.getfield 136, 3) := by decide +kernel
theorem d_M_steps_70 : decode prog_14_method_66_code 70 = .ok (.iload 5, 2) := by decide +kernel
theorem d_M_steps_72 : decode prog_14_method_66_code 72 = .ok (.iaload, 1) := by decide +kernel
theorem d_M_steps_73 : decode prog_14_method_66_code 73 = .ok (.iload_n 1, 1) := by decide +kernel
theorem d_M_steps_74 : decode prog_14_method_66_code 74 = .ok (.if_icmp .ne 7, 3) := by decide +kernel
theorem d_M_steps_77 : decode prog_14_method_66_code 77 = .ok (.iconst 0, 1) := by decide +kernel
theorem d_M_steps_78 : decode prog_14_method_66_code 78 = .ok (.goto 4, 3) := by decide +kernel
theorem d_M_steps_81 : decode prog_14_method_66_code 81 = .ok (.iconst (-1), 1) := by decide +kernel
theorem d_M_steps_82 : decode prog_14_method_66_code 82 = .ok (.iastore, 1) := by decide +kernel
theorem d_M_steps_83 : decode prog_14_method_66_code 83 = .ok (.aload_n 0, 1) := by decide +kernel
theorem d_M_steps_84 : decode prog_14_method_66_code 84 = .ok (.getfield 139, 3) := by decide +kernel
theorem d_M_steps_87 : decode prog_14_method_66_code 87 = .ok (.iload 5, 2) := by decide +kernel
theorem d_M_steps_89 : decode prog_14_method_66_code 89 = .ok (.iaload, 1) := by decide +kernel
theorem d_M_steps_90 : decode prog_14_method_66_code 90 = .ok (.ifCond .ne 15, 3) := by decide +kernel
theorem d_M_steps_93 : decode prog_14_method_66_code 93 = .ok (.aload_n 0, 1) := by decide +kernel
theorem d_M_steps_94 : decode prog_14_method_66_code 94 = .ok (.getfield 142, 3) := by decide +kernel
theorem d_M_steps_97 : decode prog_14_method_66_code 97 = .ok (.iload 4, 2) := by decide +kernel
theorem d_M_steps_99 : decode prog_14_method_66_code 99 = .ok (.iinc 4 1, 3) := by decide +kernel
theorem d_M_steps_102 : decode prog_14_method_66_code 102 = .ok (.iload 5, 2) := by decide +kernel
theorem d_M_steps_104 : decode prog_14_method_66_code 104 = .ok (.iastore, 1) := by decide +kernel
theorem d_M_steps_105 : decode prog_14_method_66_code 105 = .ok (.iinc 5 1, 3) := by decide +kernel
theorem d_M_steps_108 : decode prog_14_method_66_code 108 = .ok (.goto (-57), 3) := by decide +kernel
theorem d_M_steps_111 : decode prog_14_method_66_code 111 = .ok (.iload_n 3, 1) := by decide +kernel
theorem d_M_steps_112 : decode prog_14_method_66_code 112 = .ok (.iload 4, 2) := by decide +kernel
theorem d_M_steps_114 : decode prog_14_method_66_code 114 = .ok (.if_icmp .ge 117, 3) := by decide +kernel
theorem d_M_steps_117 : decode prog_14_method_66_code 117 = .ok (.aload_n 0, 1) := by decide +kernel
theorem d_M_steps_118 : decode prog_14_method_66_code 118 = .ok (.getfield 142, 3) := by decide +kernel
theorem d_M_steps_121 : decode prog_14_method_66_code 121 = .ok (.iload_n 3, 1) := by decide +kernel
theorem d_M_steps_122 : decode prog_14_method_66_code 122 = .ok (.iinc 3 1, 3) := by decide +kernel
theorem d_M_steps_125 : decode prog_14_method_66_code 125 = .ok (.iaload, 1) := by decide +kernel
theorem d_M_steps_126 : decode prog_14_method_66_code 126 = .ok (.istore 5, 2) := by decide +kernel
theorem d_M_steps_128 : decode prog_14_method_66_code 128 = .ok (.aload_n 0, 1) := by decide +kernel
theorem d_M_steps_129 : decode prog_14_method_66_code 129 = .ok (.getfield 136, 3) := by decide +kernel
theorem d_M_steps_132 : decode prog_14_method_66_code 132 = .ok (.iload 5, 2) := by decide +kernel
theorem d_M_steps_134 : decode prog_14_method_66_code 134 = .ok (.iaload, 1) := by decide +kernel
theorem d_M_steps_135 : decode prog_14_method_66_code 135 = .ok (.iload_n 2, 1) := by decide +kernel
theorem d_M_steps_136 : decode prog_14_method_66_code 136 = .ok (.if_icmp .ne 11, 3) := by decide +kernel
theorem d_M_steps_139 : decode prog_14_method_66_code 139 = .ok (.aload_n 0, 1) := by decide +kernel
theorem d_M_steps_140 : decode prog_14_method_66_code 140 = .ok (.getfield 139, 3) := by decide +kernel
theorem d_M_steps_143 : decode prog_14_method_66_code 143 = .ok (.iload 5, 2) := by decide +kernel
theorem d_M_steps_145 : decode prog_14_method_66_code 145 = .ok (.iaload, 1) := by decide +kernel
theorem d_M_steps_146 : decode prog_14_method_66_code 146 = .ok (.ireturn, 1) := by decide +kernel
theorem d_M_steps_147 : decode prog_14_method_66_code 147 = .ok (.iconst 0, 1) := by decide +kernel
theorem d_M_steps_148 : decode prog_14_method_66_code 148 = .ok (.istore 6, 2) := by decide +kernel
theorem d_M_steps_150 : decode prog_14_method_66_code 150 = .ok (.iload 6, 2) := by decide +kernel
theorem d_M_steps_152 : decode prog_14_method_66_code 152 = .ok (.aload_n 0, 1) := by decide +kernel
theorem d_M_steps_153 : decode prog_14_method_66_code 153 = .ok (.getfield 364, 3) := by decide +kernel
theorem d_M_steps_156 : decode prog_14_method_66_code 156 = .ok (.if_icmp .ge 72, 3) := by decide +kernel
theorem d_M_steps_159 : decode prog_14_method_66_code 159 = .ok (.aload_n 0, 1) := by decide +kernel
theorem d_M_steps_160 : decode prog_14_method_66_code 160 = .ok (.getfield 139, 3) := by decide +kernel
theorem d_M_steps_163 : decode prog_14_method_66_code 163 = .ok (.iload 6, 2) := by decide +kernel
theorem d_M_steps_165 : decode prog_14_method_66_code 165 = .ok (.iaload, 1) := by decide +kernel
theorem d_M_steps_166 : decode prog_14_method_66_code 166 = .ok (.iconst (-1), 1) := by decide +kernel
theorem d_M_steps_167 : decode prog_14_method_66_code 167 = .ok (.if_icmp .ne 55, 3) := by decide +kernel
theorem d_M_steps_170 : decode prog_14_method_66_code 170 = .ok (.aload_n 0, 1) := by decide +kernel
theorem d_M_steps_171 : decode prog_14_method_66_code 171 = .ok (.aload_n 0, 1) := by decide +kernel
theorem d_M_steps_172 : decode prog_14_method_66_code 172 = .ok (.getfield 136, 3) := by decide +kernel
theorem d_M_steps_175 : decode prog_14_method_66_code 175 = .ok (.iload 5, 2) := by decide +kernel
theorem d_M_steps_177 : decode prog_14_method_66_code 177 = .ok (.iaload, 1) := by decide +kernel
theorem d_M_steps_178 : decode prog_14_method_66_code 178 = .ok (.aload_n 0, 1) := by decide +kernel
theorem d_M_steps_179 : decode prog_14_method_66_code 179 = .ok (.getfield 136, 3) := by decide +kernel
theorem d_M_steps_182 : decode prog_14_method_66_code 182 = .ok (.iload 6, 2) := by decide +kernel
theorem d_M_steps_184 : decode prog_14_method_66_code 184 = .ok (.iaload, 1) := by decide +kernel
theorem d_M_steps_185 : decode prog_14_method_66_code 185 = .ok (.invokevirtual 377, 3) := by decide +kernel
theorem d_M_steps_188 : decode prog_14_method_66_code 188 = .ok (.ifCond .ne 6, 3) := by decide +kernel
theorem d_M_steps_191 : decode prog_14_method_66_code 191 = .ok (.goto 31, 3) := by decide +kernel
theorem d_M_steps_194 : decode prog_14_method_66_code 194 = .ok (.aload_n 0, 1) := by decide +kernel
theorem d_M_steps_195 : decode prog_14_method_66_code 195 = .ok (.getfield 139, 3) := by decide +kernel
theorem d_M_steps_198 : decode prog_14_method_66_code 198 = .ok (.iload 6, 2) := by decide +kernel
theorem d_M_steps_200 : decode prog_14_method_66_code 200 = .ok (.aload_n 0, 1) := by decide +kernel
theorem d_M_steps_201 : decode prog_14_method_66_code 201 = .ok (.getfield 139, 3) := by decide +kernel
theorem d_M_steps_204 : decode prog_14_method_66_code 204 = .ok (.iload 5, 2) := by decide +kernel
theorem d_M_steps_206 : decode prog_14_method_66_code 206 = .ok (.iaload, 1) := by decide +kernel
theorem d_M_steps_207 : decode prog_14_method_66_code 207 = .ok (.iconst 1, 1) := by decide +kernel
theorem d_M_steps_208 : decode prog_14_method_66_code 208 = .ok (.iadd, 1) := by decide +kernel
theorem d_M_steps_209 : decode prog_14_method_66_code 209 = .ok (.iastore, 1) := by decide +kernel
theorem d_M_steps_210 : decode prog_14_method_66_code 210 = .ok (.aload_n 0, 1) := by decide +kernel
theorem d_M_steps_211 : decode prog_14_method_66_code 211 = .ok (.getfield 142, 3) := by decide +kernel
theorem d_M_steps_214 : decode prog_14_method_66_code 214 = .ok (.iload 4, 2) := by decide +kernel
theorem d_M_steps_216 : decode prog_14_method_66_code 216 = .ok (.iinc 4 1, 3) := by decide +kernel
theorem d_M_steps_219 : decode prog_14_method_66_code 219 = .ok (.iload 6, 2) := by decide +kernel
theorem d_M_steps_221 : decode prog_14_method_66_code 221 = .ok (.iastore, 1) := by decide +kernel
theorem d_M_steps_222 : decode prog_14_method_66_code 222 = .ok (.iinc 6 1, 3) := by decide +kernel
theorem d_M_steps_225 : decode prog_14_method_66_code 225 = .ok (.goto (-75), 3) := by decide +kernel
theorem d_M_steps_228 : decode prog_14_method_66_code 228 = .ok (.goto (-117), 3) := by decide +kernel
theorem d_M_steps_231 : decode prog_14_method_66_code 231 = .ok (.bipush (-2), 2) := by decide +kernel
theorem d_M_steps_233 : decode prog_14_method_66_code 233 = .ok (.ireturn, 1) := by decide +kernel
theorem d_M_offOf_0 : decode prog_14_method_67_code 0 = .ok (.iconst 0, 1) := by decide +kernel
theorem d_M_offOf_1 : decode prog_14_method_67_code 1 = .ok (.istore_n 2, 1) := by decide +kernel
theorem d_M_offOf_2 : decode prog_14_method_67_code 2 = .ok (.iconst 0, 1) := by decide +kernel
theorem d_M_offOf_3 : decode prog_14_method_67_code 3 = .ok (.istore_n 3, 1) := by decide +kernel
theorem d_M_offOf_4 : decode prog_14_method_67_code 4 = .ok (.iload_n 3, 1) := by decide +kernel
theorem d_M_offOf_5 : decode prog_14_method_67_code 5 = .ok (.aload_n 0, 1) := by decide +kernel
theorem d_M_offOf_6 : decode prog_14_method_67_code 6 = .ok (.getfield 190, 3) := by decide +kernel
theorem d_M_offOf_9 : decode prog_14_method_67_code 9 = .ok (.if_icmp .ge 22, 3) := by decide +kernel
theorem d_M_offOf_12 : decode prog_14_method_67_code 12 = .ok (.aload_n 0, 1) := by decide +kernel
theorem d_M_offOf_13 : decode prog_14_method_67_code 13 = .ok (.iload_n 1, 1) := by decide +kernel
theorem d_M_offOf_14 : decode prog_14_method_67_code 14 = .ok (.iload_n 3, 1) := by decide +kernel
theorem d_M_offOf_15 : decode prog_14_method_67_code 15 = .ok (.invokevirtual 340, 3) := by decide +kernel
theorem d_M_offOf_18 : decode prog_14_method_67_code 18 = .ok (.iconst (-1), 1) := by decide +kernel
theorem d_M_offOf_19 : decode prog_14_method_67_code 19 = .ok (.if_icmp .eq 6, 3) := by decide +kernel
theorem d_M_offOf_22 : decode prog_14_method_67_code 22 = .ok (.iinc 2 1, 3) := by decide +kernel
theorem d_M_offOf_25 : decode prog_14_method_67_code 25 = .ok (.iinc 3 1, 3) := by decide +kernel
theorem d_M_offOf_28 : decode prog_14_method_67_code 28 = .ok (.goto (-24), 3) := by decide +kernel
theorem d_M_offOf_31 : decode prog_14_method_67_code 31 = .ok (.aload_n 0, 1) := by decide +kernel
theorem d_M_offOf_32 : decode prog_14_method_67_code 32 = .ok (.iload_n 1, 1) := by decide +kernel
theorem d_M_offOf_33 : decode prog_14_method_67_code 33 = .ok (.invokevirtual 327, 3) := by decide +kernel
theorem d_M_offOf_36 : decode prog_14_method_67_code 36 = .ok (.istore_n 3, 1) := by decide +kernel
theorem d_M_offOf_37 : decode prog_14_method_67_code 37 = .ok (.iconst 0, 1) := by decide +kernel
theorem d_M_offOf_38 : decode prog_14_method_67_code 38 = .ok (.istore 4, 2) := by decide +kernel
theorem d_M_offOf_40 : decode prog_14_method_67_code 40 = .ok (.iload 4, 2) := by decide +kernel
theorem d_M_offOf_42 : decode prog_14_method_67_code 42 = .ok (.aload_n 0, 1) := by decide +kernel
theorem d_M_offOf_43 : decode prog_14_method_67_code 43 = .ok (.getfield 161, 3) := by decide +kernel
theorem d_M_offOf_46 : decode prog_14_method_67_code 46 = .ok (.if_icmp .ge 58, 3) := by decide +kernel
theorem d_M_offOf_49 : decode prog_14_method_67_code 49 = .ok (.iload_n 3, 1) := by decide +kernel
theorem d_M_offOf_50 : decode prog_14_method_67_code 50 = .ok (.iload 4, 2) := by decide +kernel
theorem d_M_offOf_52 : decode prog_14_method_67_code 52 = .ok (.invokestatic 262, 3) := by decide +kernel
theorem d_M_offOf_55 : decode prog_14_method_67_code 55 = .ok (.ifCond .eq 43, 3) := by decide +kernel
theorem d_M_offOf_58 : decode prog_14_method_67_code 58 = .ok (.aload_n 0, 1) := by decide +kernel
theorem d_M_offOf_59 : decode prog_14_method_67_code 59 = .ok (.aload_n 0, 1) := by decide +kernel
theorem d_M_offOf_60 : decode prog_14_method_67_code 60 = .ok (.getfield 16, 3) := by decide +kernel
theorem d_M_offOf_63 : decode prog_14_method_67_code 63 = .ok (.iload 4, 2) := by decide +kernel
theorem d_M_offOf_65 : decode prog_14_method_67_code 65 = .ok (.iaload, 1) := by decide +kernel
theorem d_M_offOf_66 : decode prog_14_method_67_code 66 = .ok (.iload_n 1, 1) := by decide +kernel
theorem d_M_offOf_67 : decode prog_14_method_67_code 67 = .ok (.aload_n 0, 1) := by decide +kernel
theorem d_M_offOf_68 : decode prog_14_method_67_code 68 = .ok (.aload_n 0, 1) := by decide +kernel
theorem d_M_offOf_69 : decode prog_14_method_67_code 69 = .ok (.getfield 16, 3) := by decide +kernel
theorem d_M_offOf_72 : decode prog_14_method_67_code 72 = .ok (.iload 4, 2) := by decide +kernel
theorem d_M_offOf_74 : decode prog_14_method_67_code 74 = .ok (.iaload, 1) := by decide +kernel
theorem d_M_offOf_75 : decode prog_14_method_67_code 75 = .ok (.invokevirtual 306, 3) := by decide +kernel
theorem d_M_offOf_78 : decode prog_14_method_67_code 78 = .ok (.iand, 1) := by decide +kernel
theorem d_M_offOf_79 : decode prog_14_method_67_code 79 = .ok (.iconst 1, 1) := by decide +kernel
theorem d_M_offOf_80 : decode prog_14_method_67_code 80 = .ok (.iload 4, 2) := by decide +kernel
theorem d_M_offOf_82 : decode prog_14_method_67_code 82 = .ok (.ishl, 1) := by decide +kernel
theorem d_M_offOf_83 : decode prog_14_method_67_code 83 = .ok (.ior, 1) := by decide +kernel
theorem d_M_offOf_84 : decode prog_14_method_67_code 84 = .ok (.invokevirtual 303, 3) := by decide +kernel
theorem d_M_offOf_87 : decode prog_14_method_67_code 87 = .ok (.iload 4, 2) := by decide +kernel
theorem d_M_offOf_89 : decode prog_14_method_67_code 89 = .ok (.invokestatic 262, 3) := by decide +kernel
theorem d_M_offOf_92 : decode prog_14_method_67_code 92 = .ok (.ifCond .eq 6, 3) := by decide +kernel
theorem d_M_offOf_95 : decode prog_14_method_67_code 95 = .ok (.iinc 2 1, 3) := by decide +kernel
theorem d_M_offOf_98 : decode prog_14_method_67_code 98 = .ok (.iinc 4 1, 3) := by decide +kernel
theorem d_M_offOf_101 : decode prog_14_method_67_code 101 = .ok (.goto (-61), 3) := by decide +kernel
theorem d_M_offOf_104 : decode prog_14_method_67_code 104 = .ok (.iload_n 2, 1) := by decide +kernel
theorem d_M_offOf_105 : decode prog_14_method_67_code 105 = .ok (.ireturn, 1) := by decide +kernel
theorem d_M_goNear_0 : decode prog_14_method_68_code 0 = .ok (.iload_n 1, 1) := by decide +kernel
theorem d_M_goNear_1 : decode prog_14_method_68_code 1 = .ok (.aload_n 0, 1) := by decide +kernel
theorem d_M_goNear_2 : decode prog_14_method_68_code 2 = .ok (.getfield 151, 3) := by decide +kernel
theorem d_M_goNear_5 : decode prog_14_method_68_code 5 = .ok (.if_icmp .ne 62, 3) := by decide +kernel
theorem d_M_goNear_8 : decode prog_14_method_68_code 8 = .ok (.aload_n 0, 1) := by decide +kernel
theorem d_M_goNear_9 : decode prog_14_method_68_code 9 = .ok (.iload_n 2, 1) := by decide +kernel
theorem d_M_goNear_10 : decode prog_14_method_68_code 10 = .ok (.invokevirtual 324, 3) := by decide +kernel
theorem d_M_goNear_13 : decode prog_14_method_68_code 13 = .ok (.ifCond .ne 4, 3) := by decide +kernel
theorem d_M_goNear_16 : decode prog_14_method_68_code 16 = .ok (.return_, 1) := by decide +kernel
theorem d_M_goNear_17 : decode prog_14_method_68_code 17 = .ok (.aload_n 0, 1) := by decide +kernel
theorem d_M_goNear_18 : decode prog_14_method_68_code 18 = .ok (.iload_n 2, 1) := by decide +kernel
theorem d_M_goNear_19 : decode prog_14_method_68_code 19 = .ok (.invokevirtual 380, 3) := by decide +kernel
theorem d_M_goNear_22 : decode prog_14_method_68_code 22 = .ok (.istore_n 3, 1) := by decide +kernel
theorem d_M_goNear_23 : decode prog_14_method_68_code 23 = .ok (.aload_n 0, 1) := by decide +kernel
theorem d_M_goNear_24 : decode prog_14_method_68_code 24 = .ok (.getfield 383, 3) := by decide +kernel
theorem d_M_goNear_27 : decode prog_14_method_68_code 27 = .ok (.iconst (-1), 1) := by decide +kernel
theorem d_M_goNear_28 : decode prog_14_method_68_code 28 = .ok (.if_icmp .eq 28, 3) := by decide +kernel
theorem d_M_goNear_31 : decode prog_14_method_68_code 31 = .ok (.iload_n 3, 1) := by decide +kernel
theorem d_M_goNear_32 : decode prog_14_method_68_code 32 = .ok (.aload_n 0, 1) := by decide +kernel
theorem d_M_goNear_33 : decode prog_14_method_68_code 33 = .ok (.getfield 383, 3) := by decide +kernel
theorem d_M_goNear_36 : decode prog_14_method_68_code 36 = .ok (.if_icmp .gt 19, 3) := by decide +kernel
theorem d_M_goNear_39 : decode prog_14_method_68_code 39 = .ok (.iload_n 3, 1) := by decide +kernel
theorem d_M_goNear_40 : decode prog_14_method_68_code 40 = .ok (.aload_n 0, 1) := by decide +kernel
theorem d_M_goNear_41 : decode prog_14_method_68_code 41 = .ok (.getfield 383, 3) := by decide +kernel
theorem d_M_goNear_44 : decode prog_14_method_68_code 44 = .ok (.if_icmp .ne 12, 3) := by decide +kernel
theorem d_M_goNear_47 : decode prog_14_method_68_code 47 = .ok (.iload_n 2, 1) := by decide +kernel
theorem d_M_goNear_48 : decode prog_14_method_68_code 48 = .ok (.aload_n 0, 1) := by decide +kernel
theorem d_M_goNear_49 : decode prog_14_method_68_code 49 = .ok (.getfield 386, 3) := by decide +kernel
theorem d_M_goNear_52 : decode prog_14_method_68_code 52 = .ok (.if_icmp .le 4, 3) := by decide +kernel
theorem d_M_goNear_55 : decode prog_14_method_68_code 55 = .ok (.return_, 1) := by decide +kernel
theorem d_M_goNear_56 : decode prog_14_method_68_code 56 = .ok (.aload_n 0, 1) := by decide +kernel
theorem d_M_goNear_57 : decode prog_14_method_68_code 57 = .ok (.iload_n 3, 1) := by decide +kernel
theorem d_M_goNear_58 : decode prog_14_method_68_code 58 = .ok (.putfield 383, 3) := by decide +kernel
theorem d_M_goNear_61 : decode prog_14_method_68_code 61 = .ok (.aload_n 0, 1) := by decide +kernel
theorem d_M_goNear_62 : decode prog_14_method_68_code 62 = .ok (.iload_n 2, 1) := by decide +kernel
theorem d_M_goNear_63 : decode prog_14_method_68_code 63 = .ok (.putfield 386, 3) := by decide +kernel
theorem d_M_goNear_66 : decode prog_14_method_68_code 66 = .ok (.return_, 1) := by decide +kernel
theorem d_M_goNear_67 : decode prog_14_method_68_code 67 = .ok (.aload_n 0, 1) := by decide +kernel
theorem d_M_goNear_68 : decode prog_14_method_68_code 68 = .ok (.iload_n 1, 1) := by decide +kernel
theorem d_M_goNear_69 : decode prog_14_method_68_code 69 = .ok (.iconst 1, 1) := by decide +kernel
theorem d_M_goNear_70 : decode prog_14_method_68_code 70 = .ok (.iadd, 1) := by decide +kernel
theorem d_M_goNear_71 : decode prog_14_method_68_code 71 = .ok (.iload_n 2, 1) := by decide +kernel
theorem d_M_goNear_72 : decode prog_14_method_68_code 72 = .ok (.invokevirtual 389, 3) := by decide +kernel
theorem d_M_goNear_75 : decode prog_14_method_68_code 75 = .ok (.iconst 0, 1) := by decide +kernel
theorem d_M_goNear_76 : decode prog_14_method_68_code 76 = .ok (.istore_n 3, 1) := by decide +kernel
theorem d_M_goNear_77 : decode prog_14_method_68_code 77 = .ok (.iload_n 3, 1) := by decide +kernel
theorem d_M_goNear_78 : decode prog_14_method_68_code 78 = .ok (.aload_n 0, 1) := by decide +kernel
theorem d_M_goNear_79 : decode prog_14_method_68_code 79 = .ok (.getfield 161, 3) := by decide +kernel
theorem d_M_goNear_82 : decode prog_14_method_68_code 82 = .ok (.if_icmp .ge 49, 3) := by decide +kernel
theorem d_M_goNear_85 : decode prog_14_method_68_code 85 = .ok (.aload_n 0, 1) := by decide +kernel
theorem d_M_goNear_86 : decode prog_14_method_68_code 86 = .ok (.getfield 13, 3) := by decide +kernel
theorem d_M_goNear_89 : decode prog_14_method_68_code 89 = .ok (.iload_n 3, 1) := by decide +kernel
theorem d_M_goNear_90 : decode prog_14_method_68_code 90 = .ok (.iaload, 1) := by decide +kernel
theorem d_M_goNear_91 : decode prog_14_method_68_code 91 = .ok (.iload_n 1, 1) := by decide +kernel
theorem d_M_goNear_92 : decode prog_14_method_68_code 92 = .ok (.if_icmp .ne 33, 3) := by decide +kernel
theorem d_M_goNear_95 : decode prog_14_method_68_code 95 = .ok (.aload_n 0, 1) := by decide +kernel
theorem d_M_goNear_96 : decode prog_14_method_68_code 96 = .ok (.iload_n 3, 1) := by decide +kernel
theorem d_M_goNear_97 : decode prog_14_method_68_code 97 = .ok (.invokevirtual 187, 3) := by decide +kernel
theorem d_M_goNear_100 : decode prog_14_method_68_code 100 = .ok (.iconst (-1), 1) := by decide +kernel
theorem d_M_goNear_101 : decode prog_14_method_68_code 101 = .ok (.if_icmp .ne 12, 3) := by decide +kernel
theorem d_M_goNear_104 : decode prog_14_method_68_code 104 = .ok (.aload_n 0, 1) := by decide +kernel
theorem d_M_goNear_105 : decode prog_14_method_68_code 105 = .ok (.iload_n 1, 1) := by decide +kernel
theorem d_M_goNear_106 : decode prog_14_method_68_code 106 = .ok (.invokevirtual 193, 3) := by decide +kernel
theorem d_M_goNear_109 : decode prog_14_method_68_code 109 = .ok (.iconst (-1), 1) := by decide +kernel
theorem d_M_goNear_110 : decode prog_14_method_68_code 110 = .ok (.if_icmp .eq 15, 3) := by decide +kernel
theorem d_M_goNear_113 : decode prog_14_method_68_code 113 = .ok (.aload_n 0, 1) := by decide +kernel
theorem d_M_goNear_114 : decode prog_14_method_68_code 114 = .ok (.iload_n 1, 1) := by decide +kernel
theorem d_M_goNear_115 : decode prog_14_method_68_code 115 = .ok (.iconst 1, 1) := by decide +kernel
theorem d_M_goNear_116 : decode prog_14_method_68_code 116 = .ok (.iadd, 1) := by decide +kernel
theorem d_M_goNear_117 : decode prog_14_method_68_code 117 = .ok (.iload_n 2, 1) := by decide +kernel
theorem d_M_goNear_118 : decode prog_14_method_68_code 118 = .ok (.iconst 1, 1) := by decide +kernel
theorem d_M_goNear_119 : decode prog_14_method_68_code 119 = .ok (.iload_n 3, 1) := by decide +kernel
theorem d_M_goNear_120 : decode prog_14_method_68_code 120 = .ok (.ishl, 1) := by decide +kernel
theorem d_M_goNear_121 : decode prog_14_method_68_code 121 = .ok (.ior, 1) := by decide +kernel
theorem d_M_goNear_122 : decode prog_14_method_68_code 122 = .ok (.invokevirtual 389, 3) := by decide +kernel
theorem d_M_goNear_125 : decode prog_14_method_68_code 125 = .ok (.iinc 3 1, 3) := by decide +kernel
theorem d_M_goNear_128 : decode prog_14_method_68_code 128 = .ok (.goto (-51), 3) := by decide +kernel
theorem d_M_goNear_131 : decode prog_14_method_68_code 131 = .ok (.return_, 1) := by decide +kernel
theorem d_M_near_0 : decode prog_14_method_69_code 0 = .ok (.aload_n 0, 1) := by decide +kernel
theorem d_M_near_1 : decode prog_14_method_69_code 1 = .ok (.iconst 0, 1) := by decide +kernel
theorem d_M_near_2 : decode prog_14_method_69_code 2 = .ok (.putfield 148, 3) := by decide +kernel
theorem d_M_near_5 : decode prog_14_method_69_code 5 = .ok (.aload_n 0, 1) := by decide +kernel
theorem d_M_near_6 : decode prog_14_method_69_code 6 = .ok (.iconst (-1), 1) := by decide +kernel
theorem d_M_near_7 : decode prog_14_method_69_code 7 = .ok (.putfield 383, 3) := by decide +kernel
theorem d_M_near_10 : decode prog_14_method_69_code 10 = .ok (.aload_n 0, 1) := by decide +kernel
theorem d_M_near_11 : decode prog_14_method_69_code 11 = .ok (.iconst 0, 1) := by decide +kernel
theorem d_M_near_12 : decode prog_14_method_69_code 12 = .ok (.iconst 0, 1) := by decide +kernel
theorem d_M_near_13 : decode prog_14_method_69_code 13 = .ok (.invokevirtual 389, 3) := by decide +kernel
theorem d_M_near_16 : decode prog_14_method_69_code 16 = .ok (.aload_n 0, 1) := by decide +kernel
theorem d_M_near_17 : decode prog_14_method_69_code 17 = .ok (.iconst 0, 1) := by decide +kernel
theorem d_M_near_18 : decode prog_14_method_69_code 18 = .ok (.putfield 170, 3) := by decide +kernel
theorem d_M_near_21 : decode prog_14_method_69_code 21 = .ok (.aload_n 0, 1) := by decide +kernel
theorem d_M_near_22 : decode prog_14_method_69_code 22 = .ok (.aload_n 0, 1) := by decide +kernel
theorem d_M_near_23 : decode prog_14_method_69_code 23 = .ok (.getfield 386, 3) := by decide +kernel
theorem d_M_near_26 : decode prog_14_method_69_code 26 = .ok (.invokevirtual 309, 3) := by decide +kernel
theorem d_M_near_29 : decode prog_14_method_69_code 29 = .ok (.aload_n 0, 1) := by decide +kernel
theorem d_M_near_30 : decode prog_14_method_69_code 30 = .ok (.getfield 383, 3) := by decide +kernel
theorem d_M_near_33 : decode prog_14_method_69_code 33 = .ok (.ireturn, 1) := by decide +kernel
theorem d_M_share_0 : decode prog_14_method_70_code 0 = .ok (.iload_n 1, 1) := by decide +kernel
theorem d_M_share_1 : decode prog_14_method_70_code 1 = .ok (.aload_n 0, 1) := by decide +kernel
theorem d_M_share_2 : decode prog_14_method_70_code 2 = .ok (.getfield 158, 3) := by decide +kernel
theorem d_M_share_5 : decode prog_14_method_70_code 5 = .ok (.if_icmp .ne 31, 3) := by decide +kernel
theorem d_M_share_8 : decode prog_14_method_70_code 8 = .ok (.iload_n 2, 1) := by decide +kernel
theorem d_M_share_9 : decode prog_14_method_70_code 9 = .ok (.ifCond .le 5, 3) := by decide +kernel
theorem d_M_share_12 : decode prog_14_method_70_code 12 = .ok (.iconst 0, 1) := by decide +kernel
theorem d_M_share_13 : decode prog_14_method_70_code 13 = .ok (.ireturn, 1) := by decide +kernel
theorem d_M_share_14 : decode prog_14_method_70_code 14 = .ok (.aload_n 0, 1) := by decide +kernel
theorem d_M_share_15 : decode prog_14_method_70_code 15 = .ok (.iconst 0, 1) := by decide +kernel
theorem d_M_share_16 : decode prog_14_method_70_code 16 = .ok (.putfield 173, 3) := by decide +kernel
theorem d_M_share_19 : decode prog_14_method_70_code 19 = .ok (.aload_n 0, 1) := by decide +kernel
theorem d_M_share_20 : decode prog_14_method_70_code 20 = .ok (.iconst 0, 1) := by decide +kernel
theorem d_M_share_21 : decode prog_14_method_70_code 21 = .ok (.putfield 361, 3) := by decide +kernel
theorem d_M_share_24 : decode prog_14_method_70_code 24 = .ok (.aload_n 0, 1) := by decide +kernel
theorem d_M_share_25 : decode prog_14_method_70_code 25 = .ok (.iconst 0, 1) := by decide +kernel
theorem d_M_share_26 : decode prog_14_method_70_code 26 = .ok (.iconst 0, 1) := by decide +kernel
theorem d_M_share_27 : decode prog_14_method_70_code 27 = .ok (.iconst 1, 1) := by decide +kernel
theorem d_M_share_28 : decode prog_14_method_70_code 28 = .ok (.invokevirtual 367, 3) := by decide +kernel
theorem d_M_share_31 : decode prog_14_method_70_code 31 = .ok (.aload_n 0, 1) := by decide +kernel
theorem d_M_share_32 : decode prog_14_method_70_code 32 = .ok (.getfield 361, 3) := by decide +kernel
theorem d_M_share_35 : decode prog_14_method_70_code 35 = .ok (.ireturn, 1) := by decide +kernel
theorem d_M_share_36 : decode prog_14_method_70_code 36 = .ok (.iconst 0, 1) := by decide +kernel
theorem d_M_share_37 : decode prog_14_method_70_code 37 = .ok (.istore_n 3, 1) := by decide +kernel
theorem d_M_share_38 : decode prog_14_method_70_code 38 = .ok (.iload_n 3, 1) := by decide +kernel
theorem d_M_share_39 : decode prog_14_method_70_code 39 = .ok (.iload_n 2, 1) := by decide +kernel
theorem d_M_share_40 : decode prog_14_method_70_code 40 = .ok (.if_icmp .gt 84, 3) := by decide +kernel
theorem d_M_share_43 : decode prog_14_method_70_code 43 = .ok (.iload_n 3, 1) := by decide +kernel
theorem d_M_share_44 : decode prog_14_method_70_code 44 = .ok (.ifCond .le 28, 3) := by decide +kernel
theorem d_M_share_47 : decode prog_14_method_70_code 47 = .ok (.aload_n 0, 1) := by decide +kernel
theorem d_M_share_48 : decode prog_14_method_70_code 48 = .ok (.getfield 49, 3) := by decide +kernel
theorem d_M_share_51 : decode prog_14_method_70_code 51 = .ok (.iload_n 1, 1) := by decide +kernel
theorem d_M_share_52 : decode prog_14_method_70_code 52 = .ok (.baload, 1) := by decide +kernel
theorem d_M_share_53 : decode prog_14_method_70_code 53 = .ok (.ifCond .eq 71, 3) := by decide +kernel
theorem d_M_share_56 : decode prog_14_method_70_code 56 = .ok (.aload_n 0, 1) := by decide +kernel
theorem d_M_share_57 : decode prog_14_method_70_code 57 = .ok (.getfield 53, 3) := by decide +kernel
theorem d_M_share_60 : decode prog_14_method_70_code 60 = .ok (.iload_n 1, 1) := by decide +kernel
theorem d_M_share_61 : decode prog_14_method_70_code 61 = .ok (.iaload, 1) := by decide +kernel
theorem d_M_share_62 : decode prog_14_method_70_code 62 = .ok (.iload_n 3, 1) := by decide +kernel
theorem d_M_share_63 : decode prog_14_method_70_code 63 = .ok (.iadd, 1) := by decide +kernel
theorem d_M_share_64 : decode prog_14_method_70_code 64 = .ok (.bipush 8, 2) := by decide +kernel
theorem d_M_share_66 : decode prog_14_method_70_code 66 = .ok (.if_icmp .le 6, 3) := by decide +kernel
theorem d_M_share_69 : decode prog_14_method_70_code 69 = .ok (.goto 55, 3) := by decide +kernel
theorem d_M_share_72 : decode prog_14_method_70_code 72 = .ok (.aload_n 0, 1) := by decide +kernel
theorem d_M_share_73 : decode prog_14_method_70_code 73 = .ok (.getfield 145, 3) := by decide +kernel
theorem d_M_share_76 : decode prog_14_method_70_code 76 = .ok (.iload_n 1, 1) := by decide +kernel
theorem d_M_share_77 : decode prog_14_method_70_code 77 = .ok (.iload_n 3, 1) := by decide +kernel
theorem d_M_share_78 : decode prog_14_method_70_code 78 = .ok (.iastore, 1) := by decide +kernel
theorem d_M_share_79 : decode prog_14_method_70_code 79 = .ok (.aload_n 0, 1) := by decide +kernel
theorem d_M_share_80 : decode prog_14_method_70_code 80 = .ok (.getfield 53, 3) := by decide +kernel
theorem d_M_share_83 : decode prog_14_method_70_code 83 = .ok (.iload_n 1, 1) := by decide +kernel
theorem d_M_share_84 : decode prog_14_method_70_code 84 = .ok (.dup2, 1) := by decide +kernel
theorem d_M_share_85 : decode prog_14_method_70_code 85 = .ok (.iaload, 1) := by decide +kernel
theorem d_M_share_86 : decode prog_14_method_70_code 86 = .ok (.iload_n 3, 1) := by decide +kernel
theorem d_M_share_87 : decode prog_14_method_70_code 87 = .ok (.iadd, 1) := by decide +kernel
theorem d_M_share_88 : decode prog_14_method_70_code 88 = .ok (.iastore, 1) := by decide +kernel
theorem d_M_share_89 : decode prog_14_method_70_code 89 = .ok (.aload_n 0, 1) := by decide +kernel
theorem d_M_share_90 : decode prog_14_method_70_code 90 = .ok (.iload_n 1, 1) := by decide +kernel
theorem d_M_share_91 : decode prog_14_method_70_code 91 = .ok (.iconst 1, 1) := by decide +kernel
theorem d_M_share_92 : decode prog_14_method_70_code 92 = .ok (.iadd, 1) := by decide +kernel
theorem d_M_share_93 : decode prog_14_method_70_code 93 = .ok (.iload_n 2, 1) := by decide +kernel
theorem d_M_share_94 : decode prog_14_method_70_code 94 = .ok (.iload_n 3, 1) := by decide +kernel
theorem d_M_share_95 : decode prog_14_method_70_code 95 = .ok (.isub, 1) := by decide +kernel
theorem d_M_share_96 : decode prog_14_method_70_code 96 = .ok (.invokevirtual 393, 3) := by decide +kernel
theorem d_M_share_99 : decode prog_14_method_70_code 99 = .ok (.istore 4, 2) := by decide +kernel
theorem d_M_share_101 : decode prog_14_method_70_code 101 = .ok (.aload_n 0, 1) := by decide +kernel
theorem d_M_share_102 : decode prog_14_method_70_code 102 = .ok (.getfield 53, 3) := by decide +kernel
theorem d_M_share_105 : decode prog_14_method_70_code 105 = .ok (.iload_n 1, 1) := by decide +kernel
theorem d_M_share_106 : decode prog_14_method_70_code 106 = .ok (.dup2, 1) := by decide +kernel
theorem d_M_share_107 : decode prog_14_method_70_code 107 = .ok (.iaload, 1) := by decide +kernel
theorem d_M_share_108 : decode prog_14_method_70_code 108 = .ok (.iload_n 3, 1) := by decide +kernel
theorem d_M_share_109 : decode prog_14_method_70_code 109 = .ok (.isub, 1) := by decide +kernel
theorem d_M_share_110 : decode prog_14_method_70_code 110 = .ok (.iastore, 1) := by decide +kernel
theorem d_M_share_111 : decode prog_14_method_70_code 111 = .ok (.iload 4, 2) := by decide +kernel
theorem d_M_share_113 : decode prog_14_method_70_code 113 = .ok (.ifCond .eq 5, 3) := by decide +kernel
theorem d_M_share_116 : decode prog_14_method_70_code 116 = .ok (.iconst 1, 1) := by decide +kernel
theorem d_M_share_117 : decode prog_14_method_70_code 117 = .ok (.ireturn, 1) := by decide +kernel
theorem d_M_share_118 : decode prog_14_method_70_code 118 = .ok (.iinc 3 1, 3) := by decide +kernel
theorem d_M_share_121 : decode prog_14_method_70_code 121 = .ok (.goto (-83), 3) := by decide +kernel
theorem d_M_share_124 : decode prog_14_method_70_code 124 = .ok (.iconst 0, 1) := by decide +kernel
theorem d_M_share_125 : decode prog_14_method_70_code 125 = .ok (.ireturn, 1) := by decide +kernel
theorem d_M_places_0 : decode prog_14_method_71_code 0 = .ok (.aload_n 0, 1) := by decide +kernel
theorem d_M_places_1 : decode prog_14_method_71_code 1 = .ok (.iconst 0, 1) := by decide +kernel
theorem d_M_places_2 : decode prog_14_method_71_code 2 = .ok (.putfield 148, 3) := by decide +kernel
theorem d_M_places_5 : decode prog_14_method_71_code 5 = .ok (.iconst 0, 1) := by decide +kernel
theorem d_M_places_6 : decode prog_14_method_71_code 6 = .ok (.istore_n 1, 1) := by decide +kernel
theorem d_M_places_7 : decode prog_14_method_71_code 7 = .ok (.iload_n 1, 1) := by decide +kernel
theorem d_M_places_8 : decode prog_14_method_71_code 8 = .ok (.iconst 4, 1) := by decide +kernel
theorem d_M_places_9 : decode prog_14_method_71_code 9 = .ok (.if_icmp .ge 61, 3) := by decide +kernel
theorem d_M_places_12 : decode prog_14_method_71_code 12 = .ok (.aload_n 0, 1) := by decide +kernel
theorem d_M_places_13 : decode prog_14_method_71_code 13 = .ok (.iconst 0, 1) := by decide +kernel
theorem d_M_places_14 : decode prog_14_method_71_code 14 = .ok (.iload_n 1, 1) := by decide +kernel
theorem d_M_places_15 : decode prog_14_method_71_code 15 = .ok (.invokevirtual 393, 3) := by decide +kernel
theorem d_M_places_18 : decode prog_14_method_71_code 18 = .ok (.istore_n 2, 1) := by decide +kernel
theorem d_M_places_19 : decode prog_14_method_71_code 19 = .ok (.aload_n 0, 1) := by decide +kernel
theorem d_M_places_20 : decode prog_14_method_71_code 20 = .ok (.iconst 0, 1) := by decide +kernel
theorem d_M_places_21 : decode prog_14_method_71_code 21 = .ok (.putfield 173, 3) := by decide +kernel
theorem d_M_places_24 : decode prog_14_method_71_code 24 = .ok (.iload_n 2, 1) := by decide +kernel
theorem d_M_places_25 : decode prog_14_method_71_code 25 = .ok (.ifCond .ne 6, 3) := by decide +kernel
theorem d_M_places_28 : decode prog_14_method_71_code 28 = .ok (.goto 36, 3) := by decide +kernel
theorem d_M_places_31 : decode prog_14_method_71_code 31 = .ok (.aload_n 0, 1) := by decide +kernel
theorem d_M_places_32 : decode prog_14_method_71_code 32 = .ok (.iconst 0, 1) := by decide +kernel
theorem d_M_places_33 : decode prog_14_method_71_code 33 = .ok (.putfield 170, 3) := by decide +kernel
theorem d_M_places_36 : decode prog_14_method_71_code 36 = .ok (.iconst 0, 1) := by decide +kernel
theorem d_M_places_37 : decode prog_14_method_71_code 37 = .ok (.istore_n 3, 1) := by decide +kernel
theorem d_M_places_38 : decode prog_14_method_71_code 38 = .ok (.iload_n 3, 1) := by decide +kernel
theorem d_M_places_39 : decode prog_14_method_71_code 39 = .ok (.aload_n 0, 1) := by decide +kernel
theorem d_M_places_40 : decode prog_14_method_71_code 40 = .ok (.getfield 158, 3) := by decide +kernel
theorem d_M_places_43 : decode prog_14_method_71_code 43 = .ok (.if_icmp .ge 19, 3) := by decide +kernel
theorem d_M_places_46 : decode prog_14_method_71_code 46 = .ok (.aload_n 0, 1) := by decide +kernel
theorem d_M_places_47 : decode prog_14_method_71_code 47 = .ok (.aload_n 0, 1) := by decide +kernel
theorem d_M_places_48 : decode prog_14_method_71_code 48 = .ok (.getfield 145, 3) := by decide +kernel
theorem d_M_places_51 : decode prog_14_method_71_code 51 = .ok (.iload_n 3, 1) := by decide +kernel
theorem d_M_places_52 : decode prog_14_method_71_code 52 = .ok (.iaload, 1) := by decide +kernel
theorem d_M_places_53 : decode prog_14_method_71_code 53 = .ok (.invokevirtual 309, 3) := by decide +kernel
theorem d_M_places_56 : decode prog_14_method_71_code 56 = .ok (.iinc 3 1, 3) := by decide +kernel
theorem d_M_places_59 : decode prog_14_method_71_code 59 = .ok (.goto (-21), 3) := by decide +kernel
theorem d_M_places_62 : decode prog_14_method_71_code 62 = .ok (.iload_n 1, 1) := by decide +kernel
theorem d_M_places_63 : decode prog_14_method_71_code 63 = .ok (.ireturn, 1) := by decide +kernel
theorem d_M_places_64 : decode prog_14_method_71_code 64 = .ok (.iinc 1 1, 3) := by decide +kernel
theorem d_M_places_67 : decode prog_14_method_71_code 67 = .ok (.goto (-60), 3) := by decide +kernel
theorem d_M_places_70 : decode prog_14_method_71_code 70 = .ok (.bipush (-2), 2) := by decide +kernel
theorem d_M_places_72 : decode prog_14_method_71_code 72 = .ok (.ireturn, 1) := by decide +kernel
theorem d_M_lie_0 : decode prog_14_method_72_code 0 = .ok (.iload_n 2, 1) := by decide +kernel
theorem d_M_lie_1 : decode prog_14_method_72_code 1 = .ok (.iload_n 3, 1) := by decide +kernel
theorem d_M_lie_2 : decode prog_14_method_72_code 2 = .ok (.if_icmp .ne 61, 3) := by decide +kernel
theorem d_M_lie_5 : decode prog_14_method_72_code 5 = .ok (.aload_n 0, 1) := by decide +kernel
theorem d_M_lie_6 : decode prog_14_method_72_code 6 = .ok (.iload_n 3, 1) := by decide +kernel
theorem d_M_lie_7 : decode prog_14_method_72_code 7 = .ok (.putfield 346, 3) := by decide +kernel
theorem d_M_lie_10 : decode prog_14_method_72_code 10 = .ok (.aload_n 0, 1) := by decide +kernel
theorem d_M_lie_11 : decode prog_14_method_72_code 11 = .ok (.invokevirtual 358, 3) := by decide +kernel
theorem d_M_lie_14 : decode prog_14_method_72_code 14 = .ok (.istore 4, 2) := by decide +kernel
theorem d_M_lie_16 : decode prog_14_method_72_code 16 = .ok (.iload 4, 2) := by decide +kernel
theorem d_M_lie_18 : decode prog_14_method_72_code 18 = .ok (.ifCond .lt 43, 3) := by decide +kernel
theorem d_M_lie_21 : decode prog_14_method_72_code 21 = .ok (.aload_n 0, 1) := by decide +kernel
theorem d_M_lie_22 : decode prog_14_method_72_code 22 = .ok (.iload 4, 2) := by decide +kernel
theorem d_M_lie_24 : decode prog_14_method_72_code 24 = .ok (.iload_n 1, 1) := by decide +kernel
theorem d_M_lie_25 : decode prog_14_method_72_code 25 = .ok (.invokevirtual 315, 3) := by decide +kernel
theorem d_M_lie_28 : decode prog_14_method_72_code 28 = .ok (.iconst (-1), 1) := by decide +kernel
theorem d_M_lie_29 : decode prog_14_method_72_code 29 = .ok (.if_icmp .eq 32, 3) := by decide +kernel
theorem d_M_lie_32 : decode prog_14_method_72_code 32 = .ok (.aload_n 0, 1) := by decide +kernel
theorem d_M_lie_33 : decode prog_14_method_72_code 33 = .ok (.iload 4, 2) := by decide +kernel
theorem d_M_lie_35 : decode prog_14_method_72_code 35 = .ok (.iload_n 1, 1) := by decide +kernel
theorem d_M_lie_36 : decode prog_14_method_72_code 36 = .ok (.invokevirtual 318, 3) := by decide +kernel
theorem d_M_lie_39 : decode prog_14_method_72_code 39 = .ok (.iconst (-1), 1) := by decide +kernel
theorem d_M_lie_40 : decode prog_14_method_72_code 40 = .ok (.if_icmp .eq 21, 3) := by decide +kernel
theorem d_M_lie_43 : decode prog_14_method_72_code 43 = .ok (.aload_n 0, 1) := by decide +kernel
theorem d_M_lie_44 : decode prog_14_method_72_code 44 = .ok (.iload 4, 2) := by decide +kernel
theorem d_M_lie_46 : decode prog_14_method_72_code 46 = .ok (.iload_n 1, 1) := by decide +kernel
theorem d_M_lie_47 : decode prog_14_method_72_code 47 = .ok (.invokevirtual 318, 3) := by decide +kernel
theorem d_M_lie_50 : decode prog_14_method_72_code 50 = .ok (.aload_n 0, 1) := by decide +kernel
theorem d_M_lie_51 : decode prog_14_method_72_code 51 = .ok (.getfield 396, 3) := by decide +kernel
theorem d_M_lie_54 : decode prog_14_method_72_code 54 = .ok (.if_icmp .ge 7, 3) := by decide +kernel
theorem d_M_lie_57 : decode prog_14_method_72_code 57 = .ok (.iconst 1, 1) := by decide +kernel
theorem d_M_lie_58 : decode prog_14_method_72_code 58 = .ok (.goto 4, 3) := by decide +kernel
theorem d_M_lie_61 : decode prog_14_method_72_code 61 = .ok (.iconst 0, 1) := by decide +kernel
theorem d_M_lie_62 : decode prog_14_method_72_code 62 = .ok (.ireturn, 1) := by decide +kernel
theorem d_M_lie_63 : decode prog_14_method_72_code 63 = .ok (.iconst 0, 1) := by decide +kernel
theorem d_M_lie_64 : decode prog_14_method_72_code 64 = .ok (.istore 4, 2) := by decide +kernel
theorem d_M_lie_66 : decode prog_14_method_72_code 66 = .ok (.iload 4, 2) := by decide +kernel
theorem d_M_lie_68 : decode prog_14_method_72_code 68 = .ok (.aload_n 0, 1) := by decide +kernel
theorem d_M_lie_69 : decode prog_14_method_72_code 69 = .ok (.getfield 161, 3) := by decide +kernel
theorem d_M_lie_72 : decode prog_14_method_72_code 72 = .ok (.if_icmp .ge 96, 3) := by decide +kernel
theorem d_M_lie_75 : decode prog_14_method_72_code 75 = .ok (.aload_n 0, 1) := by decide +kernel
theorem d_M_lie_76 : decode prog_14_method_72_code 76 = .ok (.getfield 13, 3) := by decide +kernel
theorem d_M_lie_79 : decode prog_14_method_72_code 79 = .ok (.iload 4, 2) := by decide +kernel
theorem d_M_lie_81 : decode prog_14_method_72_code 81 = .ok (.iaload, 1) := by decide +kernel
theorem d_M_lie_82 : decode prog_14_method_72_code 82 = .ok (.iload_n 1, 1) := by decide +kernel
theorem d_M_lie_83 : decode prog_14_method_72_code 83 = .ok (.if_icmp .ne 7, 3) := by decide +kernel
theorem d_M_lie_86 : decode prog_14_method_72_code 86 = .ok (.iconst 1, 1) := by decide +kernel
theorem d_M_lie_87 : decode prog_14_method_72_code 87 = .ok (.goto 4, 3) := by decide +kernel
theorem d_M_lie_90 : decode prog_14_method_72_code 90 = .ok (.iconst 0, 1) := by decide +kernel
theorem d_M_lie_91 : decode prog_14_method_72_code 91 = .ok (.istore 5, 2) := by decide +kernel
theorem d_M_lie_93 : decode prog_14_method_72_code 93 = .ok (.iconst 0, 1) := by decide +kernel
theorem d_M_lie_94 : decode prog_14_method_72_code 94 = .ok (.istore 6, 2) := by decide +kernel
theorem d_M_lie_96 : decode prog_14_method_72_code 96 = .ok (.iload 6, 2) := by decide +kernel
theorem d_M_lie_98 : decode prog_14_method_72_code 98 = .ok (.iload_n 2, 1) := by decide +kernel
theorem d_M_lie_99 : decode prog_14_method_72_code 99 = .ok (.if_icmp .ge 33, 3) := by decide +kernel
theorem d_M_lie_102 : decode prog_14_method_72_code 102 = .ok (.iload 5, 2) := by decide +kernel
theorem d_M_lie_104 : decode prog_14_method_72_code 104 = .ok (.ifCond .eq 19, 3) := by decide +kernel
theorem d_M_lie_107 : decode prog_14_method_72_code 107 = .ok (.aload_n 0, 1) := by decide +kernel
theorem d_M_lie_108 : decode prog_14_method_72_code 108 = .ok (.getfield 127, 3) := by decide +kernel
theorem d_M_lie_111 : decode prog_14_method_72_code 111 = .ok (.iload 6, 2) := by decide +kernel
theorem d_M_lie_113 : decode prog_14_method_72_code 113 = .ok (.iaload, 1) := by decide +kernel
theorem d_M_lie_114 : decode prog_14_method_72_code 114 = .ok (.iload 4, 2) := by decide +kernel
theorem d_M_lie_116 : decode prog_14_method_72_code 116 = .ok (.if_icmp .eq 7, 3) := by decide +kernel
theorem d_M_lie_119 : decode prog_14_method_72_code 119 = .ok (.iconst 1, 1) := by decide +kernel
theorem d_M_lie_120 : decode prog_14_method_72_code 120 = .ok (.goto 4, 3) := by decide +kernel
theorem d_M_lie_123 : decode prog_14_method_72_code 123 = .ok (.iconst 0, 1) := by decide +kernel
theorem d_M_lie_124 : decode prog_14_method_72_code 124 = .ok (.istore 5, 2) := by decide +kernel
theorem d_M_lie_126 : decode prog_14_method_72_code 126 = .ok (.iinc 6 1, 3) := by decide +kernel
theorem d_M_lie_129 : decode prog_14_method_72_code 129 = .ok (.goto (-33), 3) := by decide +kernel
theorem d_M_lie_132 : decode prog_14_method_72_code 132 = .ok (.iload 5, 2) := by decide +kernel
theorem d_M_lie_134 : decode prog_14_method_72_code 134 = .ok (.ifCond .ne 6, 3) := by decide +kernel
theorem d_M_lie_137 : decode prog_14_method_72_code 137 = .ok (.goto 25, 3) := by decide +kernel
theorem d_M_lie_140 : decode prog_14_method_72_code 140 = .ok (.aload_n 0, 1) := by decide +kernel
theorem d_M_lie_141 : decode prog_14_method_72_code 141 = .ok (.getfield 127, 3) := by decide +kernel
theorem d_M_lie_144 : decode prog_14_method_72_code 144 = .ok (.iload_n 2, 1) := by decide +kernel
theorem d_M_lie_145 : decode prog_14_method_72_code 145 = .ok (.iload 4, 2) := by decide +kernel
theorem d_M_lie_147 : decode prog_14_method_72_code 147 = .ok (.iastore, 1) := by decide +kernel
theorem d_M_lie_148 : decode prog_14_method_72_code 148 = .ok (.aload_n 0, 1) := by decide +kernel
theorem d_M_lie_149 : decode prog_14_method_72_code 149 = .ok (.iload_n 1, 1) := by decide +kernel
theorem d_M_lie_150 : decode prog_14_method_72_code 150 = .ok (.iload_n 2, 1) := by decide +kernel
theorem d_M_lie_151 : decode prog_14_method_72_code 151 = .ok (.iconst 1, 1) := by decide +kernel
theorem d_M_lie_152 : decode prog_14_method_72_code 152 = .ok (.iadd, 1) := by decide +kernel
theorem d_M_lie_153 : decode prog_14_method_72_code 153 = .ok (.iload_n 3, 1) := by decide +kernel
theorem d_M_lie_154 : decode prog_14_method_72_code 154 = .ok (.invokevirtual 399, 3) := by decide +kernel
theorem d_M_lie_157 : decode prog_14_method_72_code 157 = .ok (.ifCond .eq 5, 3) := by decide +kernel
theorem d_M_lie_160 : decode prog_14_method_72_code 160 = .ok (.iconst 1, 1) := by decide +kernel
theorem d_M_lie_161 : decode prog_14_method_72_code 161 = .ok (.ireturn, 1) := by decide +kernel
theorem d_M_lie_162 : decode prog_14_method_72_code 162 = .ok (.iinc 4 1, 3) := by decide +kernel
theorem d_M_lie_165 : decode prog_14_method_72_code 165 = .ok (.goto (-99), 3) := by decide +kernel
theorem d_M_lie_168 : decode prog_14_method_72_code 168 = .ok (.iconst 0, 1) := by decide +kernel
theorem d_M_lie_169 : decode prog_14_method_72_code 169 = .ok (.ireturn, 1) := by decide +kernel
theorem d_M_gain_0 : decode prog_14_method_73_code 0 = .ok (.aload_n 0, 1) := by decide +kernel
theorem d_M_gain_1 : decode prog_14_method_73_code 1 = .ok (.iconst 0, 1) := by decide +kernel
theorem d_M_gain_2 : decode prog_14_method_73_code 2 = .ok (.putfield 148, 3) := by decide +kernel
theorem d_M_gain_5 : decode prog_14_method_73_code 5 = .ok (.aload_n 0, 1) := by decide +kernel
theorem d_M_gain_6 : decode prog_14_method_73_code 6 = .ok (.iload_n 1, 1) := by decide +kernel
theorem d_M_gain_7 : decode prog_14_method_73_code 7 = .ok (.invokevirtual 177, 3) := by decide +kernel
theorem d_M_gain_10 : decode prog_14_method_73_code 10 = .ok (.ifCond .eq 12, 3) := by decide +kernel
theorem d_M_gain_13 : decode prog_14_method_73_code 13 = .ok (.aload_n 0, 1) := by decide +kernel
theorem d_M_gain_14 : decode prog_14_method_73_code 14 = .ok (.iload_n 1, 1) := by decide +kernel
theorem d_M_gain_15 : decode prog_14_method_73_code 15 = .ok (.invokevirtual 193, 3) := by decide +kernel
theorem d_M_gain_18 : decode prog_14_method_73_code 18 = .ok (.iconst (-1), 1) := by decide +kernel
theorem d_M_gain_19 : decode prog_14_method_73_code 19 = .ok (.if_icmp .eq 5, 3) := by decide +kernel
theorem d_M_gain_22 : decode prog_14_method_73_code 22 = .ok (.iconst (-1), 1) := by decide +kernel
theorem d_M_gain_23 : decode prog_14_method_73_code 23 = .ok (.ireturn, 1) := by decide +kernel
theorem d_M_gain_24 : decode prog_14_method_73_code 24 = .ok (.aload_n 0, 1) := by decide +kernel
theorem d_M_gain_25 : decode prog_14_method_73_code 25 = .ok (.invokevirtual 358, 3) := by decide +kernel
theorem d_M_gain_28 : decode prog_14_method_73_code 28 = .ok (.istore_n 2, 1) := by decide +kernel
theorem d_M_gain_29 : decode prog_14_method_73_code 29 = .ok (.iload_n 2, 1) := by decide +kernel
theorem d_M_gain_30 : decode prog_14_method_73_code 30 = .ok (.ifCond .ge 5, 3) := by decide +kernel
theorem d_M_gain_33 : decode prog_14_method_73_code 33 = .ok (.iconst 0, 1) := by decide +kernel
theorem d_M_gain_34 : decode prog_14_method_73_code 34 = .ok (.ireturn, 1) := by decide +kernel
theorem d_M_gain_35 : decode prog_14_method_73_code 35 = .ok (.aload_n 0, 1) := by decide +kernel
theorem d_M_gain_36 : decode prog_14_method_73_code 36 = .ok (.aload_n 0, 1) := by decide +kernel
theorem d_M_gain_37 : decode prog_14_method_73_code 37 = .ok (.iload_n 2, 1) := by decide +kernel
theorem d_M_gain_38 : decode prog_14_method_73_code 38 = .ok (.iload_n 1, 1) := by decide +kernel
theorem d_M_gain_39 : decode prog_14_method_73_code 39 = .ok (.invokevirtual 318, 3) := by decide +kernel
theorem d_M_gain_42 : decode prog_14_method_73_code 42 = .ok (.putfield 396, 3) := by decide +kernel
theorem d_M_gain_45 : decode prog_14_method_73_code 45 = .ok (.aload_n 0, 1) := by decide +kernel
theorem d_M_gain_46 : decode prog_14_method_73_code 46 = .ok (.iload_n 1, 1) := by decide +kernel
theorem d_M_gain_47 : decode prog_14_method_73_code 47 = .ok (.putfield 123, 3) := by decide +kernel
theorem d_M_gain_50 : decode prog_14_method_73_code 50 = .ok (.iconst 1, 1) := by decide +kernel
theorem d_M_gain_51 : decode prog_14_method_73_code 51 = .ok (.istore_n 3, 1) := by decide +kernel
theorem d_M_gain_52 : decode prog_14_method_73_code 52 = .ok (.iload_n 3, 1) := by decide +kernel
theorem d_M_gain_53 : decode prog_14_method_73_code 53 = .ok (.iconst 5, 1) := by decide +kernel
theorem d_M_gain_54 : decode prog_14_method_73_code 54 = .ok (.if_icmp .gt 19, 3) := by decide +kernel
theorem d_M_gain_57 : decode prog_14_method_73_code 57 = .ok (.aload_n 0, 1) := by decide +kernel
theorem d_M_gain_58 : decode prog_14_method_73_code 58 = .ok (.iload_n 1, 1) := by decide +kernel
theorem d_M_gain_59 : decode prog_14_method_73_code 59 = .ok (.iconst 0, 1) := by decide +kernel
theorem d_M_gain_60 : decode prog_14_method_73_code 60 = .ok (.iload_n 3, 1) := by decide +kernel
theorem d_M_gain_61 : decode prog_14_method_73_code 61 = .ok (.invokevirtual 399, 3) := by decide +kernel
theorem d_M_gain_64 : decode prog_14_method_73_code 64 = .ok (.ifCond .ne 9, 3) := by decide +kernel
theorem d_M_gain_67 : decode prog_14_method_73_code 67 = .ok (.iinc 3 1, 3) := by decide +kernel
theorem d_M_gain_70 : decode prog_14_method_73_code 70 = .ok (.goto (-18), 3) := by decide +kernel
theorem d_M_gain_73 : decode prog_14_method_73_code 73 = .ok (.aload_n 0, 1) := by decide +kernel
theorem d_M_gain_74 : decode prog_14_method_73_code 74 = .ok (.iconst (-1), 1) := by decide +kernel
theorem d_M_gain_75 : decode prog_14_method_73_code 75 = .ok (.putfield 123, 3) := by decide +kernel
theorem d_M_gain_78 : decode prog_14_method_73_code 78 = .ok (.iload_n 3, 1) := by decide +kernel
theorem d_M_gain_79 : decode prog_14_method_73_code 79 = .ok (.iconst 5, 1) := by decide +kernel
theorem d_M_gain_80 : decode prog_14_method_73_code 80 = .ok (.if_icmp .le 5, 3) := by decide +kernel
theorem d_M_gain_83 : decode prog_14_method_73_code 83 = .ok (.iconst 0, 1) := by decide +kernel
theorem d_M_gain_84 : decode prog_14_method_73_code 84 = .ok (.ireturn, 1) := by decide +kernel
theorem d_M_gain_85 : decode prog_14_method_73_code 85 = .ok (.aload_n 0, 1) := by decide +kernel
theorem d_M_gain_86 : decode prog_14_method_73_code 86 = .ok (.iconst 0, 1) := by decide +kernel
theorem d_M_gain_87 : decode prog_14_method_73_code 87 = .ok (.putfield 170, 3) := by decide +kernel
theorem d_M_gain_90 : decode prog_14_method_73_code 90 = .ok (.iconst 0, 1) := by decide +kernel
theorem d_M_gain_91 : decode prog_14_method_73_code 91 = .ok (.istore 4, 2) := by decide +kernel
theorem d_M_gain_93 : decode prog_14_method_73_code 93 = .ok (.iload 4, 2) := by decide +kernel
theorem d_M_gain_95 : decode prog_14_method_73_code 95 = .ok (.iload_n 3, 1) := by decide +kernel
theorem d_M_gain_96 : decode prog_14_method_73_code 96 = .ok (.if_icmp .ge 20, 3) := by decide +kernel
theorem d_M_gain_99 : decode prog_14_method_73_code 99 = .ok (.aload_n 0, 1) := by decide +kernel
theorem d_M_gain_100 : decode prog_14_method_73_code 100 = .ok (.aload_n 0, 1) := by decide +kernel
theorem d_M_gain_101 : decode prog_14_method_73_code 101 = .ok (.getfield 127, 3) := by decide +kernel
theorem d_M_gain_104 : decode prog_14_method_73_code 104 = .ok (.iload 4, 2) := by decide +kernel
theorem d_M_gain_106 : decode prog_14_method_73_code 106 = .ok (.iaload, 1) := by decide +kernel
theorem d_M_gain_107 : decode prog_14_method_73_code 107 = .ok (.invokevirtual 309, 3) := by decide +kernel
theorem d_M_gain_110 : decode prog_14_method_73_code 110 = .ok (.iinc 4 1, 3) := by decide +kernel
theorem d_M_gain_113 : decode prog_14_method_73_code 113 = .ok (.goto (-20), 3) := by decide +kernel
theorem d_M_gain_116 : decode prog_14_method_73_code 116 = .ok (.iconst 1, 1) := by decide +kernel
theorem d_M_gain_117 : decode prog_14_method_73_code 117 = .ok (.ireturn, 1) := by decide +kernel
theorem d_M_left_0 : decode prog_14_method_74_code 0 = .ok (.aload_n 0, 1) := by decide +kernel
theorem d_M_left_1 : decode prog_14_method_74_code 1 = .ok (.iconst 0, 1) := by decide +kernel
theorem d_M_left_2 : decode prog_14_method_74_code 2 = .ok (.putfield 148, 3) := by decide +kernel
theorem d_M_left_5 : decode prog_14_method_74_code 5 = .ok (.aload_n 0, 1) := by decide +kernel
theorem d_M_left_6 : decode prog_14_method_74_code 6 = .ok (.invokevirtual 371, 3) := by decide +kernel
theorem d_M_left_9 : decode prog_14_method_74_code 9 = .ok (.aload_n 0, 1) := by decide +kernel
theorem d_M_left_10 : decode prog_14_method_74_code 10 = .ok (.getfield 364, 3) := by decide +kernel
theorem d_M_left_13 : decode prog_14_method_74_code 13 = .ok (.ifCond .ne 6, 3) := by decide +kernel
theorem d_M_left_16 : decode prog_14_method_74_code 16 = .ok (.bipush (-2), 2) := by decide +kernel
theorem d_M_left_18 : decode prog_14_method_74_code 18 = .ok (.ireturn, 1) := by decide +kernel
theorem d_M_left_19 : decode prog_14_method_74_code 19 = .ok (.iconst 0, 1) := by decide +kernel
theorem d_M_left_20 : decode prog_14_method_74_code 20 = .ok (.istore_n 1, 1) := by decide +kernel
theorem d_M_left_21 : decode prog_14_method_74_code 21 = .ok (.iconst 0, 1) := by decide +kernel
theorem d_M_left_22 : decode prog_14_method_74_code 22 = .ok (.istore_n 2, 1) := by decide +kernel
theorem d_M_left_23 : decode prog_14_method_74_code 23 = .ok (.iload_n 2, 1) := by decide +kernel
theorem d_M_left_24 : decode prog_14_method_74_code 24 = .ok (.aload_n 0, 1) := by decide +kernel
theorem d_M_left_25 : decode prog_14_method_74_code 25 = .ok (.getfield 364, 3) := by decide +kernel
theorem d_M_left_28 : decode prog_14_method_74_code 28 = .ok (.if_icmp .ge 22, 3) := by decide +kernel
theorem d_M_left_31 : decode prog_14_method_74_code 31 = .ok (.iload_n 1, 1) := by decide +kernel
theorem d_M_left_32 : decode prog_14_method_74_code 32 = .ok (.aload_n 0, 1) := by decide +kernel
theorem d_M_left_33 : decode prog_14_method_74_code 33 = .ok (.aload_n 0, 1) := by decide +kernel
theorem d_M_left_34 : decode prog_14_method_74_code 34 = .ok (.getfield 136, 3) := by decide +kernel
theorem d_M_left_37 : decode prog_14_method_74_code 37 = .ok (.iload_n 2, 1) := by decide +kernel
theorem d_M_left_38 : decode prog_14_method_74_code 38 = .ok (.iaload, 1) := by decide +kernel
theorem d_M_left_39 : decode prog_14_method_74_code 39 = .ok (.invokevirtual 265, 3) := by decide +kernel
theorem d_M_left_42 : decode prog_14_method_74_code 42 = .ok (.ior, 1) := by decide +kernel
theorem d_M_left_43 : decode prog_14_method_74_code 43 = .ok (.istore_n 1, 1) := by decide +kernel
theorem d_M_left_44 : decode prog_14_method_74_code 44 = .ok (.iinc 2 1, 3) := by decide +kernel
theorem d_M_left_47 : decode prog_14_method_74_code 47 = .ok (.goto (-24), 3) := by decide +kernel
theorem d_M_left_50 : decode prog_14_method_74_code 50 = .ok (.iload_n 1, 1) := by decide +kernel
theorem d_M_left_51 : decode prog_14_method_74_code 51 = .ok (.iconst (-1), 1) := by decide +kernel
theorem d_M_left_52 : decode prog_14_method_74_code 52 = .ok (.ixor, 1) := by decide +kernel
theorem d_M_left_53 : decode prog_14_method_74_code 53 = .ok (.iconst 1, 1) := by decide +kernel
theorem d_M_left_54 : decode prog_14_method_74_code 54 = .ok (.aload_n 0, 1) := by decide +kernel
theorem d_M_left_55 : decode prog_14_method_74_code 55 = .ok (.getfield 151, 3) := by decide +kernel
theorem d_M_left_58 : decode prog_14_method_74_code 58 = .ok (.ishl, 1) := by decide +kernel
theorem d_M_left_59 : decode prog_14_method_74_code 59 = .ok (.iconst 1, 1) := by decide +kernel
theorem d_M_left_60 : decode prog_14_method_74_code 60 = .ok (.isub, 1) := by decide +kernel
theorem d_M_left_61 : decode prog_14_method_74_code 61 = .ok (.iand, 1) := by decide +kernel
theorem d_M_left_62 : decode prog_14_method_74_code 62 = .ok (.ireturn, 1) := by decide +kernel
theorem d_M_same_0 : decode prog_14_method_75_code 0 = .ok (.aload_n 0, 1) := by decide +kernel
theorem d_M_same_1 : decode prog_14_method_75_code 1 = .ok (.iconst 0, 1) := by decide +kernel
theorem d_M_same_2 : decode prog_14_method_75_code 2 = .ok (.putfield 148, 3) := by decide +kernel
theorem d_M_same_5 : decode prog_14_method_75_code 5 = .ok (.aload_n 0, 1) := by decide +kernel
theorem d_M_same_6 : decode prog_14_method_75_code 6 = .ok (.invokevirtual 371, 3) := by decide +kernel
theorem d_M_same_9 : decode prog_14_method_75_code 9 = .ok (.aload_n 0, 1) := by decide +kernel
theorem d_M_same_10 : decode prog_14_method_75_code 10 = .ok (.getfield 364, 3) := by decide +kernel
theorem d_M_same_13 : decode prog_14_method_75_code 13 = .ok (.ifCond .ne 6, 3) := by decide +kernel
theorem d_M_same_16 : decode prog_14_method_75_code 16 = .ok (.bipush (-2), 2) := by decide +kernel
theorem d_M_same_18 : decode prog_14_method_75_code 18 = .ok (.ireturn, 1) := by decide +kernel
theorem d_M_same_19 : decode prog_14_method_75_code 19 = .ok (.iconst 0, 1) := by decide +kernel
theorem d_M_same_20 : decode prog_14_method_75_code 20 = .ok (.istore_n 1, 1) := by decide +kernel
theorem d_M_same_21 : decode prog_14_method_75_code 21 = .ok (.iconst 0, 1) := by decide +kernel
theorem d_M_same_22 : decode prog_14_method_75_code 22 = .ok (.istore_n 2, 1) := by decide +kernel
theorem d_M_same_23 : decode prog_14_method_75_code 23 = .ok (.iload_n 2, 1) := by decide +kernel
theorem d_M_same_24 : decode prog_14_method_75_code 24 = .ok (.aload_n 0, 1) := by decide +kernel
theorem d_M_same_25 : decode prog_14_method_75_code 25 = .ok (.getfield 158, 3) := by decide +kernel
theorem d_M_same_28 : decode prog_14_method_75_code 28 = .ok (.if_icmp .ge 72, 3) := by decide +kernel
theorem d_M_same_31 : decode prog_14_method_75_code 31 = .ok (.iconst 1, 1) := by decide +kernel
theorem d_M_same_32 : decode prog_14_method_75_code 32 = .ok (.istore_n 3, 1) := by decide +kernel
theorem d_M_same_33 : decode prog_14_method_75_code 33 = .ok (.iconst 1, 1) := by decide +kernel
theorem d_M_same_34 : decode prog_14_method_75_code 34 = .ok (.istore 4, 2) := by decide +kernel
theorem d_M_same_36 : decode prog_14_method_75_code 36 = .ok (.iload 4, 2) := by decide +kernel
theorem d_M_same_38 : decode prog_14_method_75_code 38 = .ok (.aload_n 0, 1) := by decide +kernel
theorem d_M_same_39 : decode prog_14_method_75_code 39 = .ok (.getfield 364, 3) := by decide +kernel
theorem d_M_same_42 : decode prog_14_method_75_code 42 = .ok (.if_icmp .ge 42, 3) := by decide +kernel
theorem d_M_same_45 : decode prog_14_method_75_code 45 = .ok (.iload_n 3, 1) := by decide +kernel
theorem d_M_same_46 : decode prog_14_method_75_code 46 = .ok (.ifCond .eq 30, 3) := by decide +kernel
theorem d_M_same_49 : decode prog_14_method_75_code 49 = .ok (.aload_n 0, 1) := by decide +kernel
theorem d_M_same_50 : decode prog_14_method_75_code 50 = .ok (.getfield 136, 3) := by decide +kernel
theorem d_M_same_53 : decode prog_14_method_75_code 53 = .ok (.iload 4, 2) := by decide +kernel
theorem d_M_same_55 : decode prog_14_method_75_code 55 = .ok (.iaload, 1) := by decide +kernel
theorem d_M_same_56 : decode prog_14_method_75_code 56 = .ok (.aload_n 0, 1) := by decide +kernel
theorem d_M_same_57 : decode prog_14_method_75_code 57 = .ok (.getfield 136, 3) := by decide +kernel
theorem d_M_same_60 : decode prog_14_method_75_code 60 = .ok (.iconst 0, 1) := by decide +kernel
theorem d_M_same_61 : decode prog_14_method_75_code 61 = .ok (.iaload, 1) := by decide +kernel
theorem d_M_same_62 : decode prog_14_method_75_code 62 = .ok (.ixor, 1) := by decide +kernel
theorem d_M_same_63 : decode prog_14_method_75_code 63 = .ok (.aload_n 0, 1) := by decide +kernel
theorem d_M_same_64 : decode prog_14_method_75_code 64 = .ok (.iload_n 2, 1) := by decide +kernel
theorem d_M_same_65 : decode prog_14_method_75_code 65 = .ok (.invokevirtual 306, 3) := by decide +kernel
theorem d_M_same_68 : decode prog_14_method_75_code 68 = .ok (.iand, 1) := by decide +kernel
theorem d_M_same_69 : decode prog_14_method_75_code 69 = .ok (.ifCond .ne 7, 3) := by decide +kernel
theorem d_M_same_72 : decode prog_14_method_75_code 72 = .ok (.iconst 1, 1) := by decide +kernel
theorem d_M_same_73 : decode prog_14_method_75_code 73 = .ok (.goto 4, 3) := by decide +kernel
theorem d_M_same_76 : decode prog_14_method_75_code 76 = .ok (.iconst 0, 1) := by decide +kernel
theorem d_M_same_77 : decode prog_14_method_75_code 77 = .ok (.istore_n 3, 1) := by decide +kernel
theorem d_M_same_78 : decode prog_14_method_75_code 78 = .ok (.iinc 4 1, 3) := by decide +kernel
theorem d_M_same_81 : decode prog_14_method_75_code 81 = .ok (.goto (-45), 3) := by decide +kernel
theorem d_M_same_84 : decode prog_14_method_75_code 84 = .ok (.iload_n 3, 1) := by decide +kernel
theorem d_M_same_85 : decode prog_14_method_75_code 85 = .ok (.ifCond .eq 9, 3) := by decide +kernel
theorem d_M_same_88 : decode prog_14_method_75_code 88 = .ok (.iload_n 1, 1) := by decide +kernel
theorem d_M_same_89 : decode prog_14_method_75_code 89 = .ok (.iconst 1, 1) := by decide +kernel
theorem d_M_same_90 : decode prog_14_method_75_code 90 = .ok (.iload_n 2, 1) := by decide +kernel
theorem d_M_same_91 : decode prog_14_method_75_code 91 = .ok (.ishl, 1) := by decide +kernel
theorem d_M_same_92 : decode prog_14_method_75_code 92 = .ok (.ior, 1) := by decide +kernel
theorem d_M_same_93 : decode prog_14_method_75_code 93 = .ok (.istore_n 1, 1) := by decide +kernel
theorem d_M_same_94 : decode prog_14_method_75_code 94 = .ok (.iinc 2 1, 3) := by decide +kernel
theorem d_M_same_97 : decode prog_14_method_75_code 97 = .ok (.goto (-74), 3) := by decide +kernel
theorem d_M_same_100 : decode prog_14_method_75_code 100 = .ok (.iload_n 1, 1) := by decide +kernel
theorem d_M_same_101 : decode prog_14_method_75_code 101 = .ok (.ireturn, 1) := by decide +kernel
theorem d_M_lot_0 : decode prog_14_method_76_code 0 = .ok (.aload_n 0, 1) := by decide +kernel
theorem d_M_lot_1 : decode prog_14_method_76_code 1 = .ok (.iconst 0, 1) := by decide +kernel
theorem d_M_lot_2 : decode prog_14_method_76_code 2 = .ok (.putfield 148, 3) := by decide +kernel
theorem d_M_lot_5 : decode prog_14_method_76_code 5 = .ok (.aload_n 0, 1) := by decide +kernel
theorem d_M_lot_6 : decode prog_14_method_76_code 6 = .ok (.iload_n 1, 1) := by decide +kernel
theorem d_M_lot_7 : decode prog_14_method_76_code 7 = .ok (.invokevirtual 184, 3) := by decide +kernel
theorem d_M_lot_10 : decode prog_14_method_76_code 10 = .ok (.ifCond .ne 5, 3) := by decide +kernel
theorem d_M_lot_13 : decode prog_14_method_76_code 13 = .ok (.iconst (-1), 1) := by decide +kernel
theorem d_M_lot_14 : decode prog_14_method_76_code 14 = .ok (.ireturn, 1) := by decide +kernel
theorem d_M_lot_15 : decode prog_14_method_76_code 15 = .ok (.aload_n 0, 1) := by decide +kernel
theorem d_M_lot_16 : decode prog_14_method_76_code 16 = .ok (.invokevirtual 371, 3) := by decide +kernel
theorem d_M_lot_19 : decode prog_14_method_76_code 19 = .ok (.aload_n 0, 1) := by decide +kernel
theorem d_M_lot_20 : decode prog_14_method_76_code 20 = .ok (.getfield 364, 3) := by decide +kernel
theorem d_M_lot_23 : decode prog_14_method_76_code 23 = .ok (.ifCond .ne 6, 3) := by decide +kernel
theorem d_M_lot_26 : decode prog_14_method_76_code 26 = .ok (.bipush (-2), 2) := by decide +kernel
theorem d_M_lot_28 : decode prog_14_method_76_code 28 = .ok (.ireturn, 1) := by decide +kernel
theorem d_M_lot_29 : decode prog_14_method_76_code 29 = .ok (.iconst 0, 1) := by decide +kernel
theorem d_M_lot_30 : decode prog_14_method_76_code 30 = .ok (.istore_n 2, 1) := by decide +kernel
theorem d_M_lot_31 : decode prog_14_method_76_code 31 = .ok (.iconst 0, 1) := by decide +kernel
theorem d_M_lot_32 : decode prog_14_method_76_code 32 = .ok (.istore_n 3, 1) := by decide +kernel
theorem d_M_lot_33 : decode prog_14_method_76_code 33 = .ok (.iload_n 3, 1) := by decide +kernel
theorem d_M_lot_34 : decode prog_14_method_76_code 34 = .ok (.aload_n 0, 1) := by decide +kernel
theorem d_M_lot_35 : decode prog_14_method_76_code 35 = .ok (.getfield 364, 3) := by decide +kernel
theorem d_M_lot_38 : decode prog_14_method_76_code 38 = .ok (.if_icmp .ge 30, 3) := by decide +kernel
theorem d_M_lot_41 : decode prog_14_method_76_code 41 = .ok (.iload_n 2, 1) := by decide +kernel
theorem d_M_lot_42 : decode prog_14_method_76_code 42 = .ok (.aload_n 0, 1) := by decide +kernel
theorem d_M_lot_43 : decode prog_14_method_76_code 43 = .ok (.getfield 136, 3) := by decide +kernel
theorem d_M_lot_46 : decode prog_14_method_76_code 46 = .ok (.iload_n 3, 1) := by decide +kernel
theorem d_M_lot_47 : decode prog_14_method_76_code 47 = .ok (.iaload, 1) := by decide +kernel
theorem d_M_lot_48 : decode prog_14_method_76_code 48 = .ok (.iload_n 1, 1) := by decide +kernel
theorem d_M_lot_49 : decode prog_14_method_76_code 49 = .ok (.invokestatic 262, 3) := by decide +kernel
theorem d_M_lot_52 : decode prog_14_method_76_code 52 = .ok (.ifCond .eq 7, 3) := by decide +kernel
theorem d_M_lot_55 : decode prog_14_method_76_code 55 = .ok (.iconst 1, 1) := by decide +kernel
theorem d_M_lot_56 : decode prog_14_method_76_code 56 = .ok (.goto 4, 3) := by decide +kernel
theorem d_M_lot_59 : decode prog_14_method_76_code 59 = .ok (.iconst 0, 1) := by decide +kernel
theorem d_M_lot_60 : decode prog_14_method_76_code 60 = .ok (.iadd, 1) := by decide +kernel
theorem d_M_lot_61 : decode prog_14_method_76_code 61 = .ok (.istore_n 2, 1) := by decide +kernel
theorem d_M_lot_62 : decode prog_14_method_76_code 62 = .ok (.iinc 3 1, 3) := by decide +kernel
theorem d_M_lot_65 : decode prog_14_method_76_code 65 = .ok (.goto (-32), 3) := by decide +kernel
theorem d_M_lot_68 : decode prog_14_method_76_code 68 = .ok (.iload_n 2, 1) := by decide +kernel
theorem d_M_lot_69 : decode prog_14_method_76_code 69 = .ok (.istore_n 3, 1) := by decide +kernel
theorem d_M_lot_70 : decode prog_14_method_76_code 70 = .ok (.aload_n 0, 1) := by decide +kernel
theorem d_M_lot_71 : decode prog_14_method_76_code 71 = .ok (.getfield 364, 3) := by decide +kernel
theorem d_M_lot_74 : decode prog_14_method_76_code 74 = .ok (.istore 4, 2) := by decide +kernel
theorem d_M_lot_76 : decode prog_14_method_76_code 76 = .ok (.iload 4, 2) := by decide +kernel
theorem d_M_lot_78 : decode prog_14_method_76_code 78 = .ok (.ifCond .eq 19, 3) := by decide +kernel
theorem d_M_lot_81 : decode prog_14_method_76_code 81 = .ok (.iload_n 3, 1) := by decide +kernel
theorem d_M_lot_82 : decode prog_14_method_76_code 82 = .ok (.iload 4, 2) := by decide +kernel
theorem d_M_lot_84 : decode prog_14_method_76_code 84 = .ok (.irem, 1) := by decide +kernel
theorem d_M_lot_85 : decode prog_14_method_76_code 85 = .ok (.istore 5, 2) := by decide +kernel
theorem d_M_lot_87 : decode prog_14_method_76_code 87 = .ok (.iload 4, 2) := by decide +kernel
theorem d_M_lot_89 : decode prog_14_method_76_code 89 = .ok (.istore_n 3, 1) := by decide +kernel
theorem d_M_lot_90 : decode prog_14_method_76_code 90 = .ok (.iload 5, 2) := by decide +kernel
theorem d_M_lot_92 : decode prog_14_method_76_code 92 = .ok (.istore 4, 2) := by decide +kernel
theorem d_M_lot_94 : decode prog_14_method_76_code 94 = .ok (.goto (-18), 3) := by decide +kernel
theorem d_M_lot_97 : decode prog_14_method_76_code 97 = .ok (.aload_n 0, 1) := by decide +kernel
theorem d_M_lot_98 : decode prog_14_method_76_code 98 = .ok (.iconst 0, 1) := by decide +kernel
theorem d_M_lot_99 : decode prog_14_method_76_code 99 = .ok (.putfield 170, 3) := by decide +kernel
theorem d_M_lot_102 : decode prog_14_method_76_code 102 = .ok (.aload_n 0, 1) := by decide +kernel
theorem d_M_lot_103 : decode prog_14_method_76_code 103 = .ok (.iload_n 2, 1) := by decide +kernel
theorem d_M_lot_104 : decode prog_14_method_76_code 104 = .ok (.iload_n 3, 1) := by decide +kernel
theorem d_M_lot_105 : decode prog_14_method_76_code 105 = .ok (.idiv, 1) := by decide +kernel
theorem d_M_lot_106 : decode prog_14_method_76_code 106 = .ok (.invokevirtual 309, 3) := by decide +kernel
theorem d_M_lot_109 : decode prog_14_method_76_code 109 = .ok (.aload_n 0, 1) := by decide +kernel
theorem d_M_lot_110 : decode prog_14_method_76_code 110 = .ok (.aload_n 0, 1) := by decide +kernel
theorem d_M_lot_111 : decode prog_14_method_76_code 111 = .ok (.getfield 364, 3) := by decide +kernel
theorem d_M_lot_114 : decode prog_14_method_76_code 114 = .ok (.iload_n 3, 1) := by decide +kernel
theorem d_M_lot_115 : decode prog_14_method_76_code 115 = .ok (.idiv, 1) := by decide +kernel
theorem d_M_lot_116 : decode prog_14_method_76_code 116 = .ok (.invokevirtual 309, 3) := by decide +kernel
theorem d_M_lot_119 : decode prog_14_method_76_code 119 = .ok (.sipush 1000, 3) := by decide +kernel
theorem d_M_lot_122 : decode prog_14_method_76_code 122 = .ok (.iload_n 2, 1) := by decide +kernel
theorem d_M_lot_123 : decode prog_14_method_76_code 123 = .ok (.imul, 1) := by decide +kernel
theorem d_M_lot_124 : decode prog_14_method_76_code 124 = .ok (.aload_n 0, 1) := by decide +kernel
theorem d_M_lot_125 : decode prog_14_method_76_code 125 = .ok (.getfield 364, 3) := by decide +kernel
theorem d_M_lot_128 : decode prog_14_method_76_code 128 = .ok (.idiv, 1) := by decide +kernel
theorem d_M_lot_129 : decode prog_14_method_76_code 129 = .ok (.ireturn, 1) := by decide +kernel
theorem d_M_mean_0 : decode prog_14_method_77_code 0 = .ok (.aload_n 0, 1) := by decide +kernel
theorem d_M_mean_1 : decode prog_14_method_77_code 1 = .ok (.iconst 0, 1) := by decide +kernel
theorem d_M_mean_2 : decode prog_14_method_77_code 2 = .ok (.putfield 148, 3) := by decide +kernel
theorem d_M_mean_5 : decode prog_14_method_77_code 5 = .ok (.aload_n 0, 1) := by decide +kernel
theorem d_M_mean_6 : decode prog_14_method_77_code 6 = .ok (.invokevirtual 371, 3) := by decide +kernel
theorem d_M_mean_9 : decode prog_14_method_77_code 9 = .ok (.aload_n 0, 1) := by decide +kernel
theorem d_M_mean_10 : decode prog_14_method_77_code 10 = .ok (.getfield 364, 3) := by decide +kernel
theorem d_M_mean_13 : decode prog_14_method_77_code 13 = .ok (.ifCond .ne 6, 3) := by decide +kernel
theorem d_M_mean_16 : decode prog_14_method_77_code 16 = .ok (.bipush (-2), 2) := by decide +kernel
theorem d_M_mean_18 : decode prog_14_method_77_code 18 = .ok (.ireturn, 1) := by decide +kernel
theorem d_M_mean_19 : decode prog_14_method_77_code 19 = .ok (.iconst 0, 1) := by decide +kernel
theorem d_M_mean_20 : decode prog_14_method_77_code 20 = .ok (.istore_n 1, 1) := by decide +kernel
theorem d_M_mean_21 : decode prog_14_method_77_code 21 = .ok (.iconst 0, 1) := by decide +kernel
theorem d_M_mean_22 : decode prog_14_method_77_code 22 = .ok (.istore_n 2, 1) := by decide +kernel
theorem d_M_mean_23 : decode prog_14_method_77_code 23 = .ok (.iload_n 2, 1) := by decide +kernel
theorem d_M_mean_24 : decode prog_14_method_77_code 24 = .ok (.aload_n 0, 1) := by decide +kernel
theorem d_M_mean_25 : decode prog_14_method_77_code 25 = .ok (.getfield 151, 3) := by decide +kernel
theorem d_M_mean_28 : decode prog_14_method_77_code 28 = .ok (.if_icmp .ge 129, 3) := by decide +kernel
theorem d_M_mean_31 : decode prog_14_method_77_code 31 = .ok (.aload_n 0, 1) := by decide +kernel
theorem d_M_mean_32 : decode prog_14_method_77_code 32 = .ok (.iload_n 2, 1) := by decide +kernel
theorem d_M_mean_33 : decode prog_14_method_77_code 33 = .ok (.invokevirtual 193, 3) := by decide +kernel
theorem d_M_mean_36 : decode prog_14_method_77_code 36 = .ok (.iconst (-1), 1) := by decide +kernel
theorem d_M_mean_37 : decode prog_14_method_77_code 37 = .ok (.if_icmp .eq 6, 3) := by decide +kernel
theorem d_M_mean_40 : decode prog_14_method_77_code 40 = .ok (.goto 111, 3) := by decide +kernel
theorem d_M_mean_43 : decode prog_14_method_77_code 43 = .ok (.aload_n 0, 1) := by decide +kernel
theorem d_M_mean_44 : decode prog_14_method_77_code 44 = .ok (.getfield 364, 3) := by decide +kernel
theorem d_M_mean_47 : decode prog_14_method_77_code 47 = .ok (.iconst 1, 1) := by decide +kernel
theorem d_M_mean_48 : decode prog_14_method_77_code 48 = .ok (.isub, 1) := by decide +kernel
theorem d_M_mean_49 : decode prog_14_method_77_code 49 = .ok (.iconst 2, 1) := by decide +kernel
theorem d_M_mean_50 : decode prog_14_method_77_code 50 = .ok (.idiv, 1) := by decide +kernel
theorem d_M_mean_51 : decode prog_14_method_77_code 51 = .ok (.istore_n 3, 1) := by decide +kernel
theorem d_M_mean_52 : decode prog_14_method_77_code 52 = .ok (.iconst 0, 1) := by decide +kernel
theorem d_M_mean_53 : decode prog_14_method_77_code 53 = .ok (.istore 4, 2) := by decide +kernel
theorem d_M_mean_55 : decode prog_14_method_77_code 55 = .ok (.iload 4, 2) := by decide +kernel
theorem d_M_mean_57 : decode prog_14_method_77_code 57 = .ok (.aload_n 0, 1) := by decide +kernel
theorem d_M_mean_58 : decode prog_14_method_77_code 58 = .ok (.getfield 31, 3) := by decide +kernel
theorem d_M_mean_61 : decode prog_14_method_77_code 61 = .ok (.iload_n 2, 1) := by decide +kernel
theorem d_M_mean_62 : decode prog_14_method_77_code 62 = .ok (.iaload, 1) := by decide +kernel
theorem d_M_mean_63 : decode prog_14_method_77_code 63 = .ok (.if_icmp .ge 88, 3) := by decide +kernel
theorem d_M_mean_66 : decode prog_14_method_77_code 66 = .ok (.iconst 0, 1) := by decide +kernel
theorem d_M_mean_67 : decode prog_14_method_77_code 67 = .ok (.istore 5, 2) := by decide +kernel
theorem d_M_mean_69 : decode prog_14_method_77_code 69 = .ok (.iconst 0, 1) := by decide +kernel
theorem d_M_mean_70 : decode prog_14_method_77_code 70 = .ok (.istore 6, 2) := by decide +kernel
theorem d_M_mean_72 : decode prog_14_method_77_code 72 = .ok (.iload 6, 2) := by decide +kernel
theorem d_M_mean_74 : decode prog_14_method_77_code 74 = .ok (.aload_n 0, 1) := by decide +kernel
theorem d_M_mean_75 : decode prog_14_method_77_code 75 = .ok (.getfield 364, 3) := by decide +kernel
theorem d_M_mean_78 : decode prog_14_method_77_code 78 = .ok (.if_icmp .ge 36, 3) := by decide +kernel
theorem d_M_mean_81 : decode prog_14_method_77_code 81 = .ok (.iload 5, 2) := by decide +kernel
theorem d_M_mean_83 : decode prog_14_method_77_code 83 = .ok (.aload_n 0, 1) := by decide +kernel
theorem d_M_mean_84 : decode prog_14_method_77_code 84 = .ok (.aload_n 0, 1) := by decide +kernel
theorem d_M_mean_85 : decode prog_14_method_77_code 85 = .ok (.getfield 136, 3) := by decide +kernel
theorem d_M_mean_88 : decode prog_14_method_77_code 88 = .ok (.iload 6, 2) := by decide +kernel
theorem d_M_mean_90 : decode prog_14_method_77_code 90 = .ok (.iaload, 1) := by decide +kernel
theorem d_M_mean_91 : decode prog_14_method_77_code 91 = .ok (.iload_n 2, 1) := by decide +kernel
theorem d_M_mean_92 : decode prog_14_method_77_code 92 = .ok (.invokevirtual 318, 3) := by decide +kernel
theorem d_M_mean_95 : decode prog_14_method_77_code 95 = .ok (.iload 4, 2) := by decide +kernel
theorem d_M_mean_97 : decode prog_14_method_77_code 97 = .ok (.if_icmp .ne 7, 3) := by decide +kernel
theorem d_M_mean_100 : decode prog_14_method_77_code 100 = .ok (.iconst 1, 1) := by decide +kernel
theorem d_M_mean_101 : decode prog_14_method_77_code 101 = .ok (.goto 4, 3) := by decide +kernel
theorem d_M_mean_104 : decode prog_14_method_77_code 104 = .ok (.iconst 0, 1) := by decide +kernel
theorem d_M_mean_105 : decode prog_14_method_77_code 105 = .ok (.iadd, 1) := by decide +kernel
theorem d_M_mean_106 : decode prog_14_method_77_code 106 = .ok (.istore 5, 2) := by decide +kernel
theorem d_M_mean_108 : decode prog_14_method_77_code 108 = .ok (.iinc 6 1, 3) := by decide +kernel
theorem d_M_mean_111 : decode prog_14_method_77_code 111 = .ok (.goto (-39), 3) := by decide +kernel
theorem d_M_mean_114 : decode prog_14_method_77_code 114 = .ok (.iload_n 3, 1) := by decide +kernel
theorem d_M_mean_115 : decode prog_14_method_77_code 115 = .ok (.ifCond .lt 25, 3) := by decide +kernel
theorem d_M_mean_118 : decode prog_14_method_77_code 118 = .ok (.iload_n 3, 1) := by decide +kernel
theorem d_M_mean_119 : decode prog_14_method_77_code 119 = .ok (.iload 5, 2) := by decide +kernel
theorem d_M_mean_121 : decode prog_14_method_77_code 121 = .ok (.if_icmp .ge 19, 3) := by decide +kernel
theorem d_M_mean_124 : decode prog_14_method_77_code 124 = .ok (.iload_n 1, 1) := by decide +kernel
theorem d_M_mean_125 : decode prog_14_method_77_code 125 = .ok (.iconst 1, 1) := by decide +kernel
theorem d_M_mean_126 : decode prog_14_method_77_code 126 = .ok (.aload_n 0, 1) := by decide +kernel
theorem d_M_mean_127 : decode prog_14_method_77_code 127 = .ok (.getfield 28, 3) := by decide +kernel
theorem d_M_mean_130 : decode prog_14_method_77_code 130 = .ok (.iconst 5, 1) := by decide +kernel
theorem d_M_mean_131 : decode prog_14_method_77_code 131 = .ok (.iload_n 2, 1) := by decide +kernel
theorem d_M_mean_132 : decode prog_14_method_77_code 132 = .ok (.imul, 1) := by decide +kernel
theorem d_M_mean_133 : decode prog_14_method_77_code 133 = .ok (.iload 4, 2) := by decide +kernel
theorem d_M_mean_135 : decode prog_14_method_77_code 135 = .ok (.iadd, 1) := by decide +kernel
theorem d_M_mean_136 : decode prog_14_method_77_code 136 = .ok (.iaload, 1) := by decide +kernel
theorem d_M_mean_137 : decode prog_14_method_77_code 137 = .ok (.ishl, 1) := by decide +kernel
theorem d_M_mean_138 : decode prog_14_method_77_code 138 = .ok (.ior, 1) := by decide +kernel
theorem d_M_mean_139 : decode prog_14_method_77_code 139 = .ok (.istore_n 1, 1) := by decide +kernel
theorem d_M_mean_140 : decode prog_14_method_77_code 140 = .ok (.iload_n 3, 1) := by decide +kernel
theorem d_M_mean_141 : decode prog_14_method_77_code 141 = .ok (.iload 5, 2) := by decide +kernel
theorem d_M_mean_143 : decode prog_14_method_77_code 143 = .ok (.isub, 1) := by decide +kernel
theorem d_M_mean_144 : decode prog_14_method_77_code 144 = .ok (.istore_n 3, 1) := by decide +kernel
theorem d_M_mean_145 : decode prog_14_method_77_code 145 = .ok (.iinc 4 1, 3) := by decide +kernel
theorem d_M_mean_148 : decode prog_14_method_77_code 148 = .ok (.goto (-93), 3) := by decide +kernel
theorem d_M_mean_151 : decode prog_14_method_77_code 151 = .ok (.iinc 2 1, 3) := by decide +kernel
theorem d_M_mean_154 : decode prog_14_method_77_code 154 = .ok (.goto (-131), 3) := by decide +kernel
theorem d_M_mean_157 : decode prog_14_method_77_code 157 = .ok (.iload_n 1, 1) := by decide +kernel
theorem d_M_mean_158 : decode prog_14_method_77_code 158 = .ok (.ireturn, 1) := by decide +kernel
theorem d_M_gone_0 : decode prog_14_method_78_code 0 = .ok (.aload_n 0, 1) := by decide +kernel
theorem d_M_gone_1 : decode prog_14_method_78_code 1 = .ok (.iconst 0, 1) := by decide +kernel
theorem d_M_gone_2 : decode prog_14_method_78_code 2 = .ok (.putfield 148, 3) := by decide +kernel
theorem d_M_gone_5 : decode prog_14_method_78_code 5 = .ok (.iload_n 1, 1) := by decide +kernel
theorem d_M_gone_6 : decode prog_14_method_78_code 6 = .ok (.iconst 0, 1) := by decide +kernel
theorem d_M_gone_7 : decode prog_14_method_78_code 7 = .ok (.iconst 1, 1) := by decide +kernel
theorem d_M_gone_8 : decode prog_14_method_78_code 8 = .ok (.invokestatic 154, 3) := by decide +kernel
theorem d_M_gone_11 : decode prog_14_method_78_code 11 = .ok (.ifCond .eq 26, 3) := by decide +kernel
theorem d_M_gone_14 : decode prog_14_method_78_code 14 = .ok (.iload_n 1, 1) := by decide +kernel
theorem d_M_gone_15 : decode prog_14_method_78_code 15 = .ok (.ifCond .ne 14, 3) := by decide +kernel
theorem d_M_gone_18 : decode prog_14_method_78_code 18 = .ok (.aload_n 0, 1) := by decide +kernel
theorem d_M_gone_19 : decode prog_14_method_78_code 19 = .ok (.iload_n 2, 1) := by decide +kernel
theorem d_M_gone_20 : decode prog_14_method_78_code 20 = .ok (.invokevirtual 177, 3) := by decide +kernel
theorem d_M_gone_23 : decode prog_14_method_78_code 23 = .ok (.ifCond .ne 16, 3) := by decide +kernel
theorem d_M_gone_26 : decode prog_14_method_78_code 26 = .ok (.goto 11, 3) := by decide +kernel
theorem d_M_gone_29 : decode prog_14_method_78_code 29 = .ok (.aload_n 0, 1) := by decide +kernel
theorem d_M_gone_30 : decode prog_14_method_78_code 30 = .ok (.iload_n 2, 1) := by decide +kernel
theorem d_M_gone_31 : decode prog_14_method_78_code 31 = .ok (.invokevirtual 184, 3) := by decide +kernel
theorem d_M_gone_34 : decode prog_14_method_78_code 34 = .ok (.ifCond .ne 5, 3) := by decide +kernel
theorem d_M_gone_37 : decode prog_14_method_78_code 37 = .ok (.iconst (-1), 1) := by decide +kernel
theorem d_M_gone_38 : decode prog_14_method_78_code 38 = .ok (.ireturn, 1) := by decide +kernel
theorem d_M_gone_39 : decode prog_14_method_78_code 39 = .ok (.aload_n 0, 1) := by decide +kernel
theorem d_M_gone_40 : decode prog_14_method_78_code 40 = .ok (.invokevirtual 358, 3) := by decide +kernel
theorem d_M_gone_43 : decode prog_14_method_78_code 43 = .ok (.istore_n 3, 1) := by decide +kernel
theorem d_M_gone_44 : decode prog_14_method_78_code 44 = .ok (.iload_n 1, 1) := by decide +kernel
theorem d_M_gone_45 : decode prog_14_method_78_code 45 = .ok (.ifCond .ne 11, 3) := by decide +kernel
theorem d_M_gone_48 : decode prog_14_method_78_code 48 = .ok (.aload_n 0, 1) := by decide +kernel
theorem d_M_gone_49 : decode prog_14_method_78_code 49 = .ok (.iload_n 2, 1) := by decide +kernel
theorem d_M_gone_50 : decode prog_14_method_78_code 50 = .ok (.putfield 130, 3) := by decide +kernel
theorem d_M_gone_53 : decode prog_14_method_78_code 53 = .ok (.goto 8, 3) := by decide +kernel
theorem d_M_gone_56 : decode prog_14_method_78_code 56 = .ok (.aload_n 0, 1) := by decide +kernel
theorem d_M_gone_57 : decode prog_14_method_78_code 57 = .ok (.iload_n 2, 1) := by decide +kernel
theorem d_M_gone_58 : decode prog_14_method_78_code 58 = .ok (.putfield 133, 3) := by decide +kernel
theorem d_M_gone_61 : decode prog_14_method_78_code 61 = .ok (.aload_n 0, 1) := by decide +kernel
theorem d_M_gone_62 : decode prog_14_method_78_code 62 = .ok (.invokevirtual 358, 3) := by decide +kernel
theorem d_M_gone_65 : decode prog_14_method_78_code 65 = .ok (.istore 4, 2) := by decide +kernel
theorem d_M_gone_67 : decode prog_14_method_78_code 67 = .ok (.aload_n 0, 1) := by decide +kernel
theorem d_M_gone_68 : decode prog_14_method_78_code 68 = .ok (.iconst (-1), 1) := by decide +kernel
theorem d_M_gone_69 : decode prog_14_method_78_code 69 = .ok (.putfield 130, 3) := by decide +kernel
theorem d_M_gone_72 : decode prog_14_method_78_code 72 = .ok (.aload_n 0, 1) := by decide +kernel
theorem d_M_gone_73 : decode prog_14_method_78_code 73 = .ok (.iconst (-1), 1) := by decide +kernel
theorem d_M_gone_74 : decode prog_14_method_78_code 74 = .ok (.putfield 133, 3) := by decide +kernel
theorem d_M_gone_77 : decode prog_14_method_78_code 77 = .ok (.iload_n 3, 1) := by decide +kernel
theorem d_M_gone_78 : decode prog_14_method_78_code 78 = .ok (.ifCond .lt 8, 3) := by decide +kernel
theorem d_M_gone_81 : decode prog_14_method_78_code 81 = .ok (.iload 4, 2) := by decide +kernel
theorem d_M_gone_83 : decode prog_14_method_78_code 83 = .ok (.ifCond .ge 6, 3) := by decide +kernel
theorem d_M_gone_86 : decode prog_14_method_78_code 86 = .ok (.bipush (-3), 2) := by decide +kernel
theorem d_M_gone_88 : decode prog_14_method_78_code 88 = .ok (.ireturn, 1) := by decide +kernel
theorem d_M_gone_89 : decode prog_14_method_78_code 89 = .ok (.iconst 0, 1) := by decide +kernel
theorem d_M_gone_90 : decode prog_14_method_78_code 90 = .ok (.istore 5, 2) := by decide +kernel
theorem d_M_gone_92 : decode prog_14_method_78_code 92 = .ok (.iconst 0, 1) := by decide +kernel
theorem d_M_gone_93 : decode prog_14_method_78_code 93 = .ok (.istore 6, 2) := by decide +kernel
theorem d_M_gone_95 : decode prog_14_method_78_code 95 = .ok (.iload 6, 2) := by decide +kernel
theorem d_M_gone_97 : decode prog_14_method_78_code 97 = .ok (.aload_n 0, 1) := by decide +kernel
theorem d_M_gone_98 : decode prog_14_method_78_code 98 = .ok (.getfield 151, 3) := by decide +kernel
theorem d_M_gone_101 : decode prog_14_method_78_code 101 = .ok (.if_icmp .ge 36, 3) := by decide +kernel
theorem d_M_gone_104 : decode prog_14_method_78_code 104 = .ok (.aload_n 0, 1) := by decide +kernel
theorem d_M_gone_105 : decode prog_14_method_78_code 105 = .ok (.iload_n 3, 1) := by decide +kernel
theorem d_M_gone_106 : decode prog_14_method_78_code 106 = .ok (.iload 6, 2) := by decide +kernel
theorem d_M_gone_108 : decode prog_14_method_78_code 108 = .ok (.invokevirtual 315, 3) := by decide +kernel
theorem d_M_gone_111 : decode prog_14_method_78_code 111 = .ok (.aload_n 0, 1) := by decide +kernel
theorem d_M_gone_112 : decode prog_14_method_78_code 112 = .ok (.iload 4, 2) := by decide +kernel
theorem d_M_gone_114 : decode prog_14_method_78_code 114 = .ok (.iload 6, 2) := by decide +kernel
theorem d_M_gone_116 : decode prog_14_method_78_code 116 = .ok (.invokevirtual 315, 3) := by decide +kernel
theorem d_M_gone_119 : decode prog_14_method_78_code 119 = .ok (.if_icmp .eq 12, 3) := by decide +kernel
theorem d_M_gone_122 : decode prog_14_method_78_code 122 = .ok (.iload 5, 2) := by decide +kernel
theorem d_M_gone_124 : decode prog_14_method_78_code 124 = .ok (.iconst 1, 1) := by decide +kernel
theorem d_M_gone_125 : decode prog_14_method_78_code 125 = .ok (.iload 6, 2) := by decide +kernel
theorem d_M_gone_127 : decode prog_14_method_78_code 127 = .ok (.ishl, 1) := by decide +kernel
theorem d_M_gone_128 : decode prog_14_method_78_code 128 = .ok (.ior, 1) := by decide +kernel
theorem d_M_gone_129 : decode prog_14_method_78_code 129 = .ok (.istore 5, 2) := by decide +kernel
theorem d_M_gone_131 : decode prog_14_method_78_code 131 = .ok (.iinc 6 1, 3) := by decide +kernel
theorem d_M_gone_134 : decode prog_14_method_78_code 134 = .ok (.goto (-39), 3) := by decide +kernel
theorem d_M_gone_137 : decode prog_14_method_78_code 137 = .ok (.aload_n 0, 1) := by decide +kernel
theorem d_M_gone_138 : decode prog_14_method_78_code 138 = .ok (.iconst 0, 1) := by decide +kernel
theorem d_M_gone_139 : decode prog_14_method_78_code 139 = .ok (.putfield 170, 3) := by decide +kernel
theorem d_M_gone_142 : decode prog_14_method_78_code 142 = .ok (.aload_n 0, 1) := by decide +kernel
theorem d_M_gone_143 : decode prog_14_method_78_code 143 = .ok (.iload 4, 2) := by decide +kernel
theorem d_M_gone_145 : decode prog_14_method_78_code 145 = .ok (.invokevirtual 309, 3) := by decide +kernel
theorem d_M_gone_148 : decode prog_14_method_78_code 148 = .ok (.aload_n 0, 1) := by decide +kernel
theorem d_M_gone_149 : decode prog_14_method_78_code 149 = .ok (.iload 5, 2) := by decide +kernel
theorem d_M_gone_151 : decode prog_14_method_78_code 151 = .ok (.invokevirtual 309, 3) := by decide +kernel
theorem d_M_gone_154 : decode prog_14_method_78_code 154 = .ok (.iload 5, 2) := by decide +kernel
theorem d_M_gone_156 : decode prog_14_method_78_code 156 = .ok (.invokestatic 268, 3) := by decide +kernel
theorem d_M_gone_159 : decode prog_14_method_78_code 159 = .ok (.ireturn, 1) := by decide +kernel
theorem d_M_count_0 : decode prog_14_method_79_code 0 = .ok (.aload_n 0, 1) := by decide +kernel
theorem d_M_count_1 : decode prog_14_method_79_code 1 = .ok (.iconst 0, 1) := by decide +kernel
theorem d_M_count_2 : decode prog_14_method_79_code 2 = .ok (.putfield 148, 3) := by decide +kernel
theorem d_M_count_5 : decode prog_14_method_79_code 5 = .ok (.iload_n 1, 1) := by decide +kernel
theorem d_M_count_6 : decode prog_14_method_79_code 6 = .ok (.tableswitch 68 0 5 #[38, 43, 48, 53, 58, 63], 38) := by decide +kernel
theorem d_M_count_44 : decode prog_14_method_79_code 44 = .ok (.aload_n 0, 1) := by decide +kernel
theorem d_M_count_45 : decode prog_14_method_79_code 45 = .ok (.getfield 151, 3) := by decide +kernel
theorem d_M_count_48 : decode prog_14_method_79_code 48 = .ok (.ireturn, 1) := by decide +kernel
theorem d_M_count_49 : decode prog_14_method_79_code 49 = .ok (.aload_n 0, 1) := by decide +kernel
theorem d_M_count_50 : decode prog_14_method_79_code 50 = .ok (.getfield 158, 3) := by decide +kernel
theorem d_M_count_53 : decode prog_14_method_79_code 53 = .ok (.ireturn, 1) := by decide +kernel
theorem d_M_count_54 : decode prog_14_method_79_code 54 = .ok (.aload_n 0, 1) := by decide +kernel
theorem d_M_count_55 : decode prog_14_method_79_code 55 = .ok (.getfield 161, 3) := by decide +kernel
theorem d_M_count_58 : decode prog_14_method_79_code 58 = .ok (.ireturn, 1) := by decide +kernel
theorem d_M_count_59 : decode prog_14_method_79_code 59 = .ok (.aload_n 0, 1) := by decide +kernel
theorem d_M_count_60 : decode prog_14_method_79_code 60 = .ok (.getfield 190, 3) := by decide +kernel
theorem d_M_count_63 : decode prog_14_method_79_code 63 = .ok (.ireturn, 1) := by decide +kernel
theorem d_M_count_64 : decode prog_14_method_79_code 64 = .ok (.aload_n 0, 1) := by decide +kernel
theorem d_M_count_65 : decode prog_14_method_79_code 65 = .ok (.getfield 200, 3) := by decide +kernel
theorem d_M_count_68 : decode prog_14_method_79_code 68 = .ok (.ireturn, 1) := by decide +kernel
theorem d_M_count_69 : decode prog_14_method_79_code 69 = .ok (.aload_n 0, 1) := by decide +kernel
theorem d_M_count_70 : decode prog_14_method_79_code 70 = .ok (.getfield 170, 3) := by decide +kernel
theorem d_M_count_73 : decode prog_14_method_79_code 73 = .ok (.ireturn, 1) := by decide +kernel
theorem d_M_count_74 : decode prog_14_method_79_code 74 = .ok (.iconst (-1), 1) := by decide +kernel
theorem d_M_count_75 : decode prog_14_method_79_code 75 = .ok (.ireturn, 1) := by decide +kernel
theorem d_M_of_0 : decode prog_14_method_80_code 0 = .ok (.aload_n 0, 1) := by decide +kernel
theorem d_M_of_1 : decode prog_14_method_80_code 1 = .ok (.iconst 0, 1) := by decide +kernel
theorem d_M_of_2 : decode prog_14_method_80_code 2 = .ok (.putfield 148, 3) := by decide +kernel
theorem d_M_of_5 : decode prog_14_method_80_code 5 = .ok (.aload_n 0, 1) := by decide +kernel
theorem d_M_of_6 : decode prog_14_method_80_code 6 = .ok (.iload_n 1, 1) := by decide +kernel
theorem d_M_of_7 : decode prog_14_method_80_code 7 = .ok (.invokevirtual 184, 3) := by decide +kernel
theorem d_M_of_10 : decode prog_14_method_80_code 10 = .ok (.ifCond .ne 5, 3) := by decide +kernel
theorem d_M_of_13 : decode prog_14_method_80_code 13 = .ok (.iconst (-1), 1) := by decide +kernel
theorem d_M_of_14 : decode prog_14_method_80_code 14 = .ok (.ireturn, 1) := by decide +kernel
theorem d_M_of_15 : decode prog_14_method_80_code 15 = .ok (.iload_n 2, 1) := by decide +kernel
theorem d_M_of_16 : decode prog_14_method_80_code 16 = .ok (.tableswitch 81 0 5 #[40, 47, 54, 61, 68, 75], 40) := by decide +kernel
theorem d_M_of_56 : decode prog_14_method_80_code 56 = .ok (.aload_n 0, 1) := by decide +kernel
theorem d_M_of_57 : decode prog_14_method_80_code 57 = .ok (.getfield 13, 3) := by decide +kernel
theorem d_M_of_60 : decode prog_14_method_80_code 60 = .ok (.iload_n 1, 1) := by decide +kernel
theorem d_M_of_61 : decode prog_14_method_80_code 61 = .ok (.iaload, 1) := by decide +kernel
theorem d_M_of_62 : decode prog_14_method_80_code 62 = .ok (.ireturn, 1) := by decide +kernel
theorem d_M_of_63 : decode prog_14_method_80_code 63 = .ok (.aload_n 0, 1) := by decide +kernel
theorem d_M_of_64 : decode prog_14_method_80_code 64 = .ok (.getfield 16, 3) := by decide +kernel
theorem d_M_of_67 : decode prog_14_method_80_code 67 = .ok (.iload_n 1, 1) := by decide +kernel
theorem d_M_of_68 : decode prog_14_method_80_code 68 = .ok (.iaload, 1) := by decide +kernel
theorem d_M_of_69 : decode prog_14_method_80_code 69 = .ok (.ireturn, 1) := by decide +kernel
theorem d_M_of_70 : decode prog_14_method_80_code 70 = .ok (.aload_n 0, 1) := by decide +kernel
theorem d_M_of_71 : decode prog_14_method_80_code 71 = .ok (.getfield 19, 3) := by decide +kernel
theorem d_M_of_74 : decode prog_14_method_80_code 74 = .ok (.iload_n 1, 1) := by decide +kernel
theorem d_M_of_75 : decode prog_14_method_80_code 75 = .ok (.iaload, 1) := by decide +kernel
theorem d_M_of_76 : decode prog_14_method_80_code 76 = .ok (.ireturn, 1) := by decide +kernel
theorem d_M_of_77 : decode prog_14_method_80_code 77 = .ok (.aload_n 0, 1) := by decide +kernel
theorem d_M_of_78 : decode prog_14_method_80_code 78 = .ok (.getfield 22, 3) := by decide +kernel
theorem d_M_of_81 : decode prog_14_method_80_code 81 = .ok (.iload_n 1, 1) := by decide +kernel
theorem d_M_of_82 : decode prog_14_method_80_code 82 = .ok (.iaload, 1) := by decide +kernel
theorem d_M_of_83 : decode prog_14_method_80_code 83 = .ok (.ireturn, 1) := by decide +kernel
theorem d_M_of_84 : decode prog_14_method_80_code 84 = .ok (.aload_n 0, 1) := by decide +kernel
theorem d_M_of_85 : decode prog_14_method_80_code 85 = .ok (.getfield 25, 3) := by decide +kernel
theorem d_M_of_88 : decode prog_14_method_80_code 88 = .ok (.iload_n 1, 1) := by decide +kernel
theorem d_M_of_89 : decode prog_14_method_80_code 89 = .ok (.iaload, 1) := by decide +kernel
theorem d_M_of_90 : decode prog_14_method_80_code 90 = .ok (.ireturn, 1) := by decide +kernel
theorem d_M_of_91 : decode prog_14_method_80_code 91 = .ok (.aload_n 0, 1) := by decide +kernel
theorem d_M_of_92 : decode prog_14_method_80_code 92 = .ok (.iload_n 1, 1) := by decide +kernel
theorem d_M_of_93 : decode prog_14_method_80_code 93 = .ok (.invokevirtual 187, 3) := by decide +kernel
theorem d_M_of_96 : decode prog_14_method_80_code 96 = .ok (.ireturn, 1) := by decide +kernel
theorem d_M_of_97 : decode prog_14_method_80_code 97 = .ok (.iconst (-1), 1) := by decide +kernel
theorem d_M_of_98 : decode prog_14_method_80_code 98 = .ok (.ireturn, 1) := by decide +kernel
theorem d_M_row_0 : decode prog_14_method_81_code 0 = .ok (.aload_n 0, 1) := by decide +kernel
theorem d_M_row_1 : decode prog_14_method_81_code 1 = .ok (.iconst 0, 1) := by decide +kernel
theorem d_M_row_2 : decode prog_14_method_81_code 2 = .ok (.putfield 148, 3) := by decide +kernel
theorem d_M_row_5 : decode prog_14_method_81_code 5 = .ok (.iload_n 1, 1) := by decide +kernel
theorem d_M_row_6 : decode prog_14_method_81_code 6 = .ok (.iconst 0, 1) := by decide +kernel
theorem d_M_row_7 : decode prog_14_method_81_code 7 = .ok (.aload_n 0, 1) := by decide +kernel
theorem d_M_row_8 : decode prog_14_method_81_code 8 = .ok (.getfield 170, 3) := by decide +kernel
theorem d_M_row_11 : decode prog_14_method_81_code 11 = .ok (.iconst 1, 1) := by decide +kernel
theorem d_M_row_12 : decode prog_14_method_81_code 12 = .ok (.isub, 1) := by decide +kernel
theorem d_M_row_13 : decode prog_14_method_81_code 13 = .ok (.invokestatic 154, 3) := by decide +kernel
theorem d_M_row_16 : decode prog_14_method_81_code 16 = .ok (.ifCond .eq 12, 3) := by decide +kernel
theorem d_M_row_19 : decode prog_14_method_81_code 19 = .ok (.aload_n 0, 1) := by decide +kernel
theorem d_M_row_20 : decode prog_14_method_81_code 20 = .ok (.getfield 90, 3) := by decide +kernel
theorem d_M_row_23 : decode prog_14_method_81_code 23 = .ok (.iload_n 1, 1) := by decide +kernel
theorem d_M_row_24 : decode prog_14_method_81_code 24 = .ok (.iaload, 1) := by decide +kernel
theorem d_M_row_25 : decode prog_14_method_81_code 25 = .ok (.goto 7, 3) := by decide +kernel
theorem d_M_row_28 : decode prog_14_method_81_code 28 = .ok (.aload_n 0, 1) := by decide +kernel
theorem d_M_row_29 : decode prog_14_method_81_code 29 = .ok (.invokevirtual 402, 3) := by decide +kernel
theorem d_M_row_32 : decode prog_14_method_81_code 32 = .ok (.ireturn, 1) := by decide +kernel
