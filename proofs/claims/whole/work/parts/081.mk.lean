/-! of every method: its words. The code words by 'rfl' (the bytes are the same constants), the others by computation -/
def db_mk2 (y : Nat) : Bool := match db_mw[y]? with
  | some (_, st, wi, _, win, np) => (if st = 0 then decide (lw_tbl[wi]? = some (.instanceMethod (db_my y))) else decide (lw_tbl[wi]? = some (.static (db_my y)))) && decide (lw_tbl[win]? = some (.initialized (db_ow y))) &&
    plainName (db_ow y) && decide (db_ow y ≠ "java/lang/invoke/MethodHandle") && decide (db_ow y ≠ "java/lang/invoke/VarHandle") && decide ((parseMethodDescriptor (db_my y).desc).map (fun d => d.parameters.length) = some np)
  | none => false
def db_cw2 (y : Nat) : Prop := lw_tbl[(db_mw.getD y (0, 0, 0, 0, 0, 0)).1]? = some (.code (db_my y) (db_by y) (db_ml y) (db_rt y))
set_option maxRecDepth 100000 in
theorem db_cw_1 : lw_tbl[89]? = some (.code (db_my 1) (db_by 1) (db_ml 1) (db_rt 1)) := rfl
set_option maxRecDepth 100000 in
theorem db_cw_2 : lw_tbl[97]? = some (.code (db_my 2) (db_by 2) (db_ml 2) (db_rt 2)) := rfl
set_option maxRecDepth 100000 in
theorem db_cw_3 : lw_tbl[122]? = some (.code (db_my 3) (db_by 3) (db_ml 3) (db_rt 3)) := rfl
set_option maxRecDepth 100000 in
theorem db_cw_4 : lw_tbl[136]? = some (.code (db_my 4) (db_by 4) (db_ml 4) (db_rt 4)) := rfl
set_option maxRecDepth 100000 in
theorem db_cw_5 : lw_tbl[169]? = some (.code (db_my 5) (db_by 5) (db_ml 5) (db_rt 5)) := rfl
set_option maxRecDepth 100000 in
theorem db_cw_6 : lw_tbl[175]? = some (.code (db_my 6) (db_by 6) (db_ml 6) (db_rt 6)) := rfl
set_option maxRecDepth 100000 in
theorem db_cw_7 : lw_tbl[189]? = some (.code (db_my 7) (db_by 7) (db_ml 7) (db_rt 7)) := rfl
set_option maxRecDepth 100000 in
theorem db_cw_8 : lw_tbl[194]? = some (.code (db_my 8) (db_by 8) (db_ml 8) (db_rt 8)) := rfl
set_option maxRecDepth 100000 in
theorem db_cw_9 : lw_tbl[239]? = some (.code (db_my 9) (db_by 9) (db_ml 9) (db_rt 9)) := rfl
set_option maxRecDepth 100000 in
theorem db_cw_10 : lw_tbl[243]? = some (.code (db_my 10) (db_by 10) (db_ml 10) (db_rt 10)) := rfl
set_option maxRecDepth 100000 in
theorem db_cw_11 : lw_tbl[246]? = some (.code (db_my 11) (db_by 11) (db_ml 11) (db_rt 11)) := rfl
set_option maxRecDepth 100000 in
theorem db_cw_12 : lw_tbl[250]? = some (.code (db_my 12) (db_by 12) (db_ml 12) (db_rt 12)) := rfl
set_option maxRecDepth 100000 in
theorem db_cw_13 : lw_tbl[253]? = some (.code (db_my 13) (db_by 13) (db_ml 13) (db_rt 13)) := rfl
set_option maxRecDepth 100000 in
theorem db_cw_14 : lw_tbl[258]? = some (.code (db_my 14) (db_by 14) (db_ml 14) (db_rt 14)) := rfl
set_option maxRecDepth 100000 in
theorem db_cw_15 : lw_tbl[266]? = some (.code (db_my 15) (db_by 15) (db_ml 15) (db_rt 15)) := rfl
set_option maxRecDepth 100000 in
theorem db_cw_16 : lw_tbl[369]? = some (.code (db_my 16) (db_by 16) (db_ml 16) (db_rt 16)) := rfl
set_option maxRecDepth 100000 in
theorem db_cw_17 : lw_tbl[375]? = some (.code (db_my 17) (db_by 17) (db_ml 17) (db_rt 17)) := rfl
set_option maxRecDepth 100000 in
theorem db_cw_18 : lw_tbl[430]? = some (.code (db_my 18) (db_by 18) (db_ml 18) (db_rt 18)) := rfl
set_option maxRecDepth 100000 in
theorem db_cw_19 : lw_tbl[486]? = some (.code (db_my 19) (db_by 19) (db_ml 19) (db_rt 19)) := rfl
set_option maxRecDepth 100000 in
theorem db_cw_20 : lw_tbl[489]? = some (.code (db_my 20) (db_by 20) (db_ml 20) (db_rt 20)) := rfl
set_option maxRecDepth 100000 in
theorem db_cw_21 : lw_tbl[493]? = some (.code (db_my 21) (db_by 21) (db_ml 21) (db_rt 21)) := rfl
set_option maxRecDepth 100000 in
theorem db_cw_22 : lw_tbl[497]? = some (.code (db_my 22) (db_by 22) (db_ml 22) (db_rt 22)) := rfl
set_option maxRecDepth 100000 in
theorem db_cw_23 : lw_tbl[501]? = some (.code (db_my 23) (db_by 23) (db_ml 23) (db_rt 23)) := rfl
set_option maxRecDepth 100000 in
theorem db_cw_24 : lw_tbl[505]? = some (.code (db_my 24) (db_by 24) (db_ml 24) (db_rt 24)) := rfl
set_option maxRecDepth 100000 in
theorem db_cw_25 : lw_tbl[509]? = some (.code (db_my 25) (db_by 25) (db_ml 25) (db_rt 25)) := rfl
set_option maxRecDepth 100000 in
theorem db_cw_26 : lw_tbl[513]? = some (.code (db_my 26) (db_by 26) (db_ml 26) (db_rt 26)) := rfl
set_option maxRecDepth 100000 in
theorem db_cw_27 : lw_tbl[517]? = some (.code (db_my 27) (db_by 27) (db_ml 27) (db_rt 27)) := rfl
set_option maxRecDepth 100000 in
theorem db_cw_28 : lw_tbl[521]? = some (.code (db_my 28) (db_by 28) (db_ml 28) (db_rt 28)) := rfl
set_option maxRecDepth 100000 in
theorem db_cw_29 : lw_tbl[525]? = some (.code (db_my 29) (db_by 29) (db_ml 29) (db_rt 29)) := rfl
set_option maxRecDepth 100000 in
theorem db_cw_30 : lw_tbl[529]? = some (.code (db_my 30) (db_by 30) (db_ml 30) (db_rt 30)) := rfl
set_option maxRecDepth 100000 in
theorem db_cw_31 : lw_tbl[534]? = some (.code (db_my 31) (db_by 31) (db_ml 31) (db_rt 31)) := rfl
set_option maxRecDepth 100000 in
theorem db_cw_32 : lw_tbl[541]? = some (.code (db_my 32) (db_by 32) (db_ml 32) (db_rt 32)) := rfl
set_option maxRecDepth 100000 in
theorem db_cw_33 : lw_tbl[544]? = some (.code (db_my 33) (db_by 33) (db_ml 33) (db_rt 33)) := rfl
set_option maxRecDepth 100000 in
theorem db_cw_34 : lw_tbl[549]? = some (.code (db_my 34) (db_by 34) (db_ml 34) (db_rt 34)) := rfl
set_option maxRecDepth 100000 in
theorem db_cw_35 : lw_tbl[553]? = some (.code (db_my 35) (db_by 35) (db_ml 35) (db_rt 35)) := rfl
set_option maxRecDepth 100000 in
theorem db_cw_36 : lw_tbl[557]? = some (.code (db_my 36) (db_by 36) (db_ml 36) (db_rt 36)) := rfl
set_option maxRecDepth 100000 in
theorem db_cw_37 : lw_tbl[561]? = some (.code (db_my 37) (db_by 37) (db_ml 37) (db_rt 37)) := rfl
set_option maxRecDepth 100000 in
theorem db_cw_38 : lw_tbl[567]? = some (.code (db_my 38) (db_by 38) (db_ml 38) (db_rt 38)) := rfl
set_option maxRecDepth 100000 in
theorem db_cw_39 : lw_tbl[571]? = some (.code (db_my 39) (db_by 39) (db_ml 39) (db_rt 39)) := rfl
set_option maxRecDepth 100000 in
theorem db_cw_40 : lw_tbl[576]? = some (.code (db_my 40) (db_by 40) (db_ml 40) (db_rt 40)) := rfl
set_option maxRecDepth 100000 in
theorem db_cw_41 : lw_tbl[581]? = some (.code (db_my 41) (db_by 41) (db_ml 41) (db_rt 41)) := rfl
set_option maxRecDepth 100000 in
theorem db_cw_42 : lw_tbl[585]? = some (.code (db_my 42) (db_by 42) (db_ml 42) (db_rt 42)) := rfl
set_option maxRecDepth 100000 in
theorem db_cw_43 : lw_tbl[592]? = some (.code (db_my 43) (db_by 43) (db_ml 43) (db_rt 43)) := rfl
set_option maxRecDepth 100000 in
theorem db_cw_44 : lw_tbl[599]? = some (.code (db_my 44) (db_by 44) (db_ml 44) (db_rt 44)) := rfl
set_option maxRecDepth 100000 in
theorem db_cw_45 : lw_tbl[604]? = some (.code (db_my 45) (db_by 45) (db_ml 45) (db_rt 45)) := rfl
set_option maxRecDepth 100000 in
theorem db_cw_46 : lw_tbl[608]? = some (.code (db_my 46) (db_by 46) (db_ml 46) (db_rt 46)) := rfl
set_option maxRecDepth 100000 in
theorem db_cw_47 : lw_tbl[612]? = some (.code (db_my 47) (db_by 47) (db_ml 47) (db_rt 47)) := rfl
set_option maxRecDepth 100000 in
theorem db_cw_48 : lw_tbl[616]? = some (.code (db_my 48) (db_by 48) (db_ml 48) (db_rt 48)) := rfl
set_option maxRecDepth 100000 in
theorem db_cw_49 : lw_tbl[622]? = some (.code (db_my 49) (db_by 49) (db_ml 49) (db_rt 49)) := rfl
set_option maxRecDepth 100000 in
theorem db_cw_50 : lw_tbl[625]? = some (.code (db_my 50) (db_by 50) (db_ml 50) (db_rt 50)) := rfl
set_option maxRecDepth 100000 in
theorem db_cw_51 : lw_tbl[632]? = some (.code (db_my 51) (db_by 51) (db_ml 51) (db_rt 51)) := rfl
set_option maxRecDepth 100000 in
theorem db_cw_52 : lw_tbl[637]? = some (.code (db_my 52) (db_by 52) (db_ml 52) (db_rt 52)) := rfl
set_option maxRecDepth 100000 in
theorem db_cw_53 : lw_tbl[641]? = some (.code (db_my 53) (db_by 53) (db_ml 53) (db_rt 53)) := rfl
set_option maxRecDepth 100000 in
theorem db_cw_54 : lw_tbl[645]? = some (.code (db_my 54) (db_by 54) (db_ml 54) (db_rt 54)) := rfl
set_option maxRecDepth 100000 in
theorem db_cw_55 : lw_tbl[649]? = some (.code (db_my 55) (db_by 55) (db_ml 55) (db_rt 55)) := rfl
set_option maxRecDepth 100000 in
theorem db_cw_56 : lw_tbl[652]? = some (.code (db_my 56) (db_by 56) (db_ml 56) (db_rt 56)) := rfl
set_option maxRecDepth 100000 in
theorem db_cw_57 : lw_tbl[658]? = some (.code (db_my 57) (db_by 57) (db_ml 57) (db_rt 57)) := rfl
set_option maxRecDepth 100000 in
theorem db_cw_58 : lw_tbl[662]? = some (.code (db_my 58) (db_by 58) (db_ml 58) (db_rt 58)) := rfl
set_option maxRecDepth 100000 in
theorem db_cw_59 : lw_tbl[667]? = some (.code (db_my 59) (db_by 59) (db_ml 59) (db_rt 59)) := rfl
set_option maxRecDepth 100000 in
theorem db_cw_60 : lw_tbl[671]? = some (.code (db_my 60) (db_by 60) (db_ml 60) (db_rt 60)) := rfl
set_option maxRecDepth 100000 in
theorem db_cw_61 : lw_tbl[678]? = some (.code (db_my 61) (db_by 61) (db_ml 61) (db_rt 61)) := rfl
set_option maxRecDepth 100000 in
theorem db_cw_62 : lw_tbl[683]? = some (.code (db_my 62) (db_by 62) (db_ml 62) (db_rt 62)) := rfl
set_option maxRecDepth 100000 in
theorem db_cw_63 : lw_tbl[689]? = some (.code (db_my 63) (db_by 63) (db_ml 63) (db_rt 63)) := rfl
set_option maxRecDepth 100000 in
theorem db_cw_64 : lw_tbl[692]? = some (.code (db_my 64) (db_by 64) (db_ml 64) (db_rt 64)) := rfl
set_option maxRecDepth 100000 in
theorem db_cw_65 : lw_tbl[696]? = some (.code (db_my 65) (db_by 65) (db_ml 65) (db_rt 65)) := rfl
set_option maxRecDepth 100000 in
theorem db_cw_66 : lw_tbl[700]? = some (.code (db_my 66) (db_by 66) (db_ml 66) (db_rt 66)) := rfl
set_option maxRecDepth 100000 in
theorem db_cw_67 : lw_tbl[705]? = some (.code (db_my 67) (db_by 67) (db_ml 67) (db_rt 67)) := rfl
set_option maxRecDepth 100000 in
theorem db_cw_68 : lw_tbl[710]? = some (.code (db_my 68) (db_by 68) (db_ml 68) (db_rt 68)) := rfl
set_option maxRecDepth 100000 in
theorem db_cw_69 : lw_tbl[714]? = some (.code (db_my 69) (db_by 69) (db_ml 69) (db_rt 69)) := rfl
set_option maxRecDepth 100000 in
theorem db_cw_70 : lw_tbl[727]? = some (.code (db_my 70) (db_by 70) (db_ml 70) (db_rt 70)) := rfl
set_option maxRecDepth 100000 in
theorem db_cw_71 : lw_tbl[730]? = some (.code (db_my 71) (db_by 71) (db_ml 71) (db_rt 71)) := rfl
set_option maxRecDepth 100000 in
theorem db_cw_72 : lw_tbl[736]? = some (.code (db_my 72) (db_by 72) (db_ml 72) (db_rt 72)) := rfl
set_option maxRecDepth 100000 in
theorem db_cw_73 : lw_tbl[740]? = some (.code (db_my 73) (db_by 73) (db_ml 73) (db_rt 73)) := rfl
set_option maxRecDepth 100000 in
theorem db_cw_74 : lw_tbl[745]? = some (.code (db_my 74) (db_by 74) (db_ml 74) (db_rt 74)) := rfl
set_option maxRecDepth 100000 in
theorem db_cw_75 : lw_tbl[749]? = some (.code (db_my 75) (db_by 75) (db_ml 75) (db_rt 75)) := rfl
set_option maxRecDepth 100000 in
theorem db_cw_76 : lw_tbl[754]? = some (.code (db_my 76) (db_by 76) (db_ml 76) (db_rt 76)) := rfl
set_option maxRecDepth 100000 in
theorem db_cw_77 : lw_tbl[758]? = some (.code (db_my 77) (db_by 77) (db_ml 77) (db_rt 77)) := rfl
set_option maxRecDepth 100000 in
theorem db_cw_78 : lw_tbl[764]? = some (.code (db_my 78) (db_by 78) (db_ml 78) (db_rt 78)) := rfl
set_option maxRecDepth 100000 in
theorem db_cw_79 : lw_tbl[768]? = some (.code (db_my 79) (db_by 79) (db_ml 79) (db_rt 79)) := rfl
set_option maxRecDepth 100000 in
theorem db_cw_80 : lw_tbl[772]? = some (.code (db_my 80) (db_by 80) (db_ml 80) (db_rt 80)) := rfl
set_option maxRecDepth 100000 in
theorem db_cw_81 : lw_tbl[776]? = some (.code (db_my 81) (db_by 81) (db_ml 81) (db_rt 81)) := rfl
set_option maxRecDepth 100000 in
theorem db_cw_82 : lw_tbl[781]? = some (.code (db_my 82) (db_by 82) (db_ml 82) (db_rt 82)) := rfl
set_option maxRecDepth 100000 in
theorem db_cw_83 : lw_tbl[785]? = some (.code (db_my 83) (db_by 83) (db_ml 83) (db_rt 83)) := rfl
set_option maxRecDepth 100000 in
theorem db_cw_84 : lw_tbl[789]? = some (.code (db_my 84) (db_by 84) (db_ml 84) (db_rt 84)) := rfl
set_option maxRecDepth 100000 in
theorem db_cw_85 : lw_tbl[793]? = some (.code (db_my 85) (db_by 85) (db_ml 85) (db_rt 85)) := rfl
set_option maxRecDepth 100000 in
theorem db_cw_86 : lw_tbl[798]? = some (.code (db_my 86) (db_by 86) (db_ml 86) (db_rt 86)) := rfl
set_option maxRecDepth 100000 in
theorem db_cw_87 : lw_tbl[802]? = some (.code (db_my 87) (db_by 87) (db_ml 87) (db_rt 87)) := rfl
set_option maxRecDepth 100000 in
theorem db_cw_88 : lw_tbl[806]? = some (.code (db_my 88) (db_by 88) (db_ml 88) (db_rt 88)) := rfl
set_option maxRecDepth 100000 in
theorem db_cw_89 : lw_tbl[811]? = some (.code (db_my 89) (db_by 89) (db_ml 89) (db_rt 89)) := rfl
set_option maxRecDepth 100000 in
theorem db_cw_90 : lw_tbl[816]? = some (.code (db_my 90) (db_by 90) (db_ml 90) (db_rt 90)) := rfl
set_option maxRecDepth 100000 in
theorem db_cw_91 : lw_tbl[820]? = some (.code (db_my 91) (db_by 91) (db_ml 91) (db_rt 91)) := rfl
set_option maxRecDepth 100000 in
theorem db_cw_92 : lw_tbl[824]? = some (.code (db_my 92) (db_by 92) (db_ml 92) (db_rt 92)) := rfl
set_option maxRecDepth 100000 in
theorem db_cw_93 : lw_tbl[829]? = some (.code (db_my 93) (db_by 93) (db_ml 93) (db_rt 93)) := rfl
set_option maxRecDepth 100000 in
theorem db_cw_94 : lw_tbl[838]? = some (.code (db_my 94) (db_by 94) (db_ml 94) (db_rt 94)) := rfl
set_option maxRecDepth 100000 in
theorem db_cw_95 : lw_tbl[842]? = some (.code (db_my 95) (db_by 95) (db_ml 95) (db_rt 95)) := rfl
set_option maxRecDepth 100000 in
theorem db_cw_96 : lw_tbl[849]? = some (.code (db_my 96) (db_by 96) (db_ml 96) (db_rt 96)) := rfl
set_option maxRecDepth 100000 in
theorem db_cw_97 : lw_tbl[853]? = some (.code (db_my 97) (db_by 97) (db_ml 97) (db_rt 97)) := rfl
set_option maxRecDepth 100000 in
theorem db_cw_98 : lw_tbl[856]? = some (.code (db_my 98) (db_by 98) (db_ml 98) (db_rt 98)) := rfl
set_option maxRecDepth 100000 in
theorem db_cw_99 : lw_tbl[861]? = some (.code (db_my 99) (db_by 99) (db_ml 99) (db_rt 99)) := rfl
set_option maxRecDepth 100000 in
theorem db_cw_100 : lw_tbl[865]? = some (.code (db_my 100) (db_by 100) (db_ml 100) (db_rt 100)) := rfl
set_option maxRecDepth 100000 in
theorem db_cw_101 : lw_tbl[871]? = some (.code (db_my 101) (db_by 101) (db_ml 101) (db_rt 101)) := rfl
set_option maxRecDepth 100000 in
theorem db_cw_102 : lw_tbl[875]? = some (.code (db_my 102) (db_by 102) (db_ml 102) (db_rt 102)) := rfl
set_option maxRecDepth 100000 in
theorem db_cw_103 : lw_tbl[882]? = some (.code (db_my 103) (db_by 103) (db_ml 103) (db_rt 103)) := rfl
set_option maxRecDepth 100000 in
theorem db_cw_104 : lw_tbl[886]? = some (.code (db_my 104) (db_by 104) (db_ml 104) (db_rt 104)) := rfl
set_option maxRecDepth 100000 in
theorem db_cw_105 : lw_tbl[890]? = some (.code (db_my 105) (db_by 105) (db_ml 105) (db_rt 105)) := rfl
set_option maxRecDepth 100000 in
theorem db_cw_106 : lw_tbl[894]? = some (.code (db_my 106) (db_by 106) (db_ml 106) (db_rt 106)) := rfl
set_option maxRecDepth 100000 in
theorem db_cw_107 : lw_tbl[898]? = some (.code (db_my 107) (db_by 107) (db_ml 107) (db_rt 107)) := rfl
set_option maxRecDepth 100000 in
theorem db_cw_108 : lw_tbl[902]? = some (.code (db_my 108) (db_by 108) (db_ml 108) (db_rt 108)) := rfl
set_option maxRecDepth 100000 in
theorem db_cw_109 : lw_tbl[906]? = some (.code (db_my 109) (db_by 109) (db_ml 109) (db_rt 109)) := rfl
set_option maxRecDepth 100000 in
theorem db_cw_110 : lw_tbl[910]? = some (.code (db_my 110) (db_by 110) (db_ml 110) (db_rt 110)) := rfl
set_option maxRecDepth 100000 in
theorem db_cw_111 : lw_tbl[914]? = some (.code (db_my 111) (db_by 111) (db_ml 111) (db_rt 111)) := rfl
set_option maxRecDepth 100000 in
theorem db_cw_112 : lw_tbl[918]? = some (.code (db_my 112) (db_by 112) (db_ml 112) (db_rt 112)) := rfl
set_option maxRecDepth 100000 in
theorem db_cw_113 : lw_tbl[922]? = some (.code (db_my 113) (db_by 113) (db_ml 113) (db_rt 113)) := rfl
set_option maxRecDepth 100000 in
theorem db_cw_114 : lw_tbl[927]? = some (.code (db_my 114) (db_by 114) (db_ml 114) (db_rt 114)) := rfl
set_option maxRecDepth 100000 in
theorem db_cw_115 : lw_tbl[931]? = some (.code (db_my 115) (db_by 115) (db_ml 115) (db_rt 115)) := rfl
set_option maxRecDepth 100000 in
theorem db_cw_116 : lw_tbl[936]? = some (.code (db_my 116) (db_by 116) (db_ml 116) (db_rt 116)) := rfl
set_option maxRecDepth 100000 in
theorem db_cw_117 : lw_tbl[1096]? = some (.code (db_my 117) (db_by 117) (db_ml 117) (db_rt 117)) := rfl
set_option maxRecDepth 100000 in
theorem db_cw_118 : lw_tbl[1099]? = some (.code (db_my 118) (db_by 118) (db_ml 118) (db_rt 118)) := rfl
set_option maxRecDepth 100000 in
theorem db_cw_119 : lw_tbl[1103]? = some (.code (db_my 119) (db_by 119) (db_ml 119) (db_rt 119)) := rfl
set_option maxRecDepth 100000 in
theorem db_cw_120 : lw_tbl[1107]? = some (.code (db_my 120) (db_by 120) (db_ml 120) (db_rt 120)) := rfl
set_option maxRecDepth 100000 in
theorem db_cw_121 : lw_tbl[1111]? = some (.code (db_my 121) (db_by 121) (db_ml 121) (db_rt 121)) := rfl
set_option maxRecDepth 100000 in
theorem db_cw_122 : lw_tbl[1115]? = some (.code (db_my 122) (db_by 122) (db_ml 122) (db_rt 122)) := rfl
set_option maxRecDepth 100000 in
theorem db_cw_123 : lw_tbl[1119]? = some (.code (db_my 123) (db_by 123) (db_ml 123) (db_rt 123)) := rfl
set_option maxRecDepth 100000 in
theorem db_cw_124 : lw_tbl[1123]? = some (.code (db_my 124) (db_by 124) (db_ml 124) (db_rt 124)) := rfl
set_option maxRecDepth 100000 in
theorem db_cw_125 : lw_tbl[1127]? = some (.code (db_my 125) (db_by 125) (db_ml 125) (db_rt 125)) := rfl
set_option maxRecDepth 100000 in
theorem db_cw_126 : lw_tbl[1131]? = some (.code (db_my 126) (db_by 126) (db_ml 126) (db_rt 126)) := rfl
set_option maxRecDepth 100000 in
theorem db_cw_127 : lw_tbl[1135]? = some (.code (db_my 127) (db_by 127) (db_ml 127) (db_rt 127)) := rfl
set_option maxRecDepth 100000 in
theorem db_cw_128 : lw_tbl[1140]? = some (.code (db_my 128) (db_by 128) (db_ml 128) (db_rt 128)) := rfl
set_option maxRecDepth 100000 in
theorem db_cw_129 : lw_tbl[1145]? = some (.code (db_my 129) (db_by 129) (db_ml 129) (db_rt 129)) := rfl
set_option maxRecDepth 100000 in
theorem db_cw_130 : lw_tbl[1149]? = some (.code (db_my 130) (db_by 130) (db_ml 130) (db_rt 130)) := rfl
set_option maxRecDepth 100000 in
theorem db_cw_131 : lw_tbl[1153]? = some (.code (db_my 131) (db_by 131) (db_ml 131) (db_rt 131)) := rfl
set_option maxRecDepth 100000 in
theorem db_cw_132 : lw_tbl[1157]? = some (.code (db_my 132) (db_by 132) (db_ml 132) (db_rt 132)) := rfl
set_option maxRecDepth 100000 in
theorem db_cw_133 : lw_tbl[1162]? = some (.code (db_my 133) (db_by 133) (db_ml 133) (db_rt 133)) := rfl
set_option maxRecDepth 100000 in
theorem db_cw_134 : lw_tbl[1166]? = some (.code (db_my 134) (db_by 134) (db_ml 134) (db_rt 134)) := rfl
set_option maxRecDepth 100000 in
theorem db_cw_135 : lw_tbl[1170]? = some (.code (db_my 135) (db_by 135) (db_ml 135) (db_rt 135)) := rfl
set_option maxRecDepth 100000 in
theorem db_cw_136 : lw_tbl[1174]? = some (.code (db_my 136) (db_by 136) (db_ml 136) (db_rt 136)) := rfl
set_option maxRecDepth 100000 in
theorem db_cw_137 : lw_tbl[1178]? = some (.code (db_my 137) (db_by 137) (db_ml 137) (db_rt 137)) := rfl
set_option maxRecDepth 100000 in
theorem db_cw_138 : lw_tbl[1181]? = some (.code (db_my 138) (db_by 138) (db_ml 138) (db_rt 138)) := rfl
set_option maxRecDepth 100000 in
theorem db_cw_139 : lw_tbl[1184]? = some (.code (db_my 139) (db_by 139) (db_ml 139) (db_rt 139)) := rfl
set_option maxRecDepth 100000 in
theorem db_cw_140 : lw_tbl[1187]? = some (.code (db_my 140) (db_by 140) (db_ml 140) (db_rt 140)) := rfl
set_option maxRecDepth 100000 in
theorem db_cw_141 : lw_tbl[1190]? = some (.code (db_my 141) (db_by 141) (db_ml 141) (db_rt 141)) := rfl
set_option maxRecDepth 100000 in
theorem db_cw_142 : lw_tbl[1193]? = some (.code (db_my 142) (db_by 142) (db_ml 142) (db_rt 142)) := rfl
set_option maxRecDepth 100000 in
theorem db_cw_143 : lw_tbl[1196]? = some (.code (db_my 143) (db_by 143) (db_ml 143) (db_rt 143)) := rfl
set_option maxRecDepth 100000 in
theorem db_cw_144 : lw_tbl[1200]? = some (.code (db_my 144) (db_by 144) (db_ml 144) (db_rt 144)) := rfl
set_option maxRecDepth 100000 in
theorem db_cw_145 : lw_tbl[1204]? = some (.code (db_my 145) (db_by 145) (db_ml 145) (db_rt 145)) := rfl
set_option maxRecDepth 100000 in
theorem db_cw_146 : lw_tbl[1208]? = some (.code (db_my 146) (db_by 146) (db_ml 146) (db_rt 146)) := rfl
set_option maxRecDepth 100000 in
theorem db_cw_147 : lw_tbl[1212]? = some (.code (db_my 147) (db_by 147) (db_ml 147) (db_rt 147)) := rfl
set_option maxRecDepth 100000 in
theorem db_cw_148 : lw_tbl[1216]? = some (.code (db_my 148) (db_by 148) (db_ml 148) (db_rt 148)) := rfl
set_option maxRecDepth 100000 in
theorem db_cw_149 : lw_tbl[1220]? = some (.code (db_my 149) (db_by 149) (db_ml 149) (db_rt 149)) := rfl
set_option maxRecDepth 100000 in
theorem db_cw_150 : lw_tbl[1223]? = some (.code (db_my 150) (db_by 150) (db_ml 150) (db_rt 150)) := rfl
set_option maxRecDepth 100000 in
theorem db_cw_151 : lw_tbl[1226]? = some (.code (db_my 151) (db_by 151) (db_ml 151) (db_rt 151)) := rfl
set_option maxRecDepth 100000 in
theorem db_cw_152 : lw_tbl[1230]? = some (.code (db_my 152) (db_by 152) (db_ml 152) (db_rt 152)) := rfl
set_option maxRecDepth 100000 in
theorem db_cw_153 : lw_tbl[1234]? = some (.code (db_my 153) (db_by 153) (db_ml 153) (db_rt 153)) := rfl
set_option maxRecDepth 100000 in
theorem db_cw_154 : lw_tbl[1238]? = some (.code (db_my 154) (db_by 154) (db_ml 154) (db_rt 154)) := rfl
set_option maxRecDepth 100000 in
theorem db_cw_155 : lw_tbl[1242]? = some (.code (db_my 155) (db_by 155) (db_ml 155) (db_rt 155)) := rfl
set_option maxRecDepth 100000 in
theorem db_cw_156 : lw_tbl[1246]? = some (.code (db_my 156) (db_by 156) (db_ml 156) (db_rt 156)) := rfl
set_option maxRecDepth 100000 in
theorem db_cw_157 : lw_tbl[1250]? = some (.code (db_my 157) (db_by 157) (db_ml 157) (db_rt 157)) := rfl
set_option maxRecDepth 100000 in
theorem db_cw_158 : lw_tbl[1254]? = some (.code (db_my 158) (db_by 158) (db_ml 158) (db_rt 158)) := rfl
set_option maxRecDepth 100000 in
theorem db_cw_159 : lw_tbl[1258]? = some (.code (db_my 159) (db_by 159) (db_ml 159) (db_rt 159)) := rfl
set_option maxRecDepth 100000 in
theorem db_cw_160 : lw_tbl[1263]? = some (.code (db_my 160) (db_by 160) (db_ml 160) (db_rt 160)) := rfl
set_option maxRecDepth 100000 in
theorem db_cw_161 : lw_tbl[1267]? = some (.code (db_my 161) (db_by 161) (db_ml 161) (db_rt 161)) := rfl
set_option maxRecDepth 100000 in
theorem db_cw_162 : lw_tbl[1271]? = some (.code (db_my 162) (db_by 162) (db_ml 162) (db_rt 162)) := rfl
set_option maxRecDepth 100000 in
theorem db_cw_163 : lw_tbl[1275]? = some (.code (db_my 163) (db_by 163) (db_ml 163) (db_rt 163)) := rfl
set_option maxRecDepth 100000 in
theorem db_cw_164 : lw_tbl[1280]? = some (.code (db_my 164) (db_by 164) (db_ml 164) (db_rt 164)) := rfl
set_option maxRecDepth 100000 in
theorem db_cw_165 : lw_tbl[1283]? = some (.code (db_my 165) (db_by 165) (db_ml 165) (db_rt 165)) := rfl
set_option maxRecDepth 100000 in
theorem db_cw_166 : lw_tbl[1287]? = some (.code (db_my 166) (db_by 166) (db_ml 166) (db_rt 166)) := rfl
set_option maxRecDepth 100000 in
theorem db_cw_167 : lw_tbl[1291]? = some (.code (db_my 167) (db_by 167) (db_ml 167) (db_rt 167)) := rfl
set_option maxRecDepth 100000 in
theorem db_cw_168 : lw_tbl[1295]? = some (.code (db_my 168) (db_by 168) (db_ml 168) (db_rt 168)) := rfl
set_option maxRecDepth 100000 in
theorem db_cw_169 : lw_tbl[1299]? = some (.code (db_my 169) (db_by 169) (db_ml 169) (db_rt 169)) := rfl
set_option maxRecDepth 100000 in
theorem db_cw_170 : lw_tbl[1303]? = some (.code (db_my 170) (db_by 170) (db_ml 170) (db_rt 170)) := rfl
set_option maxRecDepth 100000 in
theorem db_cw_171 : lw_tbl[1307]? = some (.code (db_my 171) (db_by 171) (db_ml 171) (db_rt 171)) := rfl
set_option maxRecDepth 100000 in
theorem db_cw_172 : lw_tbl[1311]? = some (.code (db_my 172) (db_by 172) (db_ml 172) (db_rt 172)) := rfl
set_option maxRecDepth 100000 in
theorem db_cw_173 : lw_tbl[1315]? = some (.code (db_my 173) (db_by 173) (db_ml 173) (db_rt 173)) := rfl
set_option maxRecDepth 100000 in
theorem db_cw_174 : lw_tbl[1320]? = some (.code (db_my 174) (db_by 174) (db_ml 174) (db_rt 174)) := rfl
set_option maxRecDepth 100000 in
theorem db_cw_175 : lw_tbl[1324]? = some (.code (db_my 175) (db_by 175) (db_ml 175) (db_rt 175)) := rfl
def db_mkr (a n : Nat) : Bool := (List.range' a n).all db_mk2
theorem db_mkr_1 : db_mkr 1 25 = true := by decide +kernel
theorem db_mkr_26 : db_mkr 26 25 = true := by decide +kernel
theorem db_mkr_51 : db_mkr 51 25 = true := by decide +kernel
theorem db_mkr_76 : db_mkr 76 25 = true := by decide +kernel
theorem db_mkr_101 : db_mkr 101 25 = true := by decide +kernel
theorem db_mkr_126 : db_mkr 126 25 = true := by decide +kernel
theorem db_mkr_151 : db_mkr 151 25 = true := by decide +kernel
theorem db_mkr_at {a n y : Nat} (h : db_mkr a n = true) (h1 : a ≤ y) (h2 : y < a + n) : db_mk2 y = true := List.all_eq_true.mp h y (List.mem_range'_1.mpr ⟨h1, h2⟩)
theorem db_mw_len : db_mw.length = 176 := by decide +kernel
theorem db_mk2_all {y : Nat} (h1 : 1 ≤ y) (h2 : y < 176) : db_mk2 y = true := by
  rcases Nat.lt_or_ge y 26 with c | c0
  · exact db_mkr_at db_mkr_1 (by omega) (by omega)
  rcases Nat.lt_or_ge y 51 with c | c1
  · exact db_mkr_at db_mkr_26 (by omega) (by omega)
  rcases Nat.lt_or_ge y 76 with c | c2
  · exact db_mkr_at db_mkr_51 (by omega) (by omega)
  rcases Nat.lt_or_ge y 101 with c | c3
  · exact db_mkr_at db_mkr_76 (by omega) (by omega)
  rcases Nat.lt_or_ge y 126 with c | c4
  · exact db_mkr_at db_mkr_101 (by omega) (by omega)
  rcases Nat.lt_or_ge y 151 with c | c5
  · exact db_mkr_at db_mkr_126 (by omega) (by omega)
  exact db_mkr_at db_mkr_151 (by omega) (by omega)
theorem db_cw_all : ∀ y, y < 175 → lw_tbl[(db_mw.getD (y + 1) (0, 0, 0, 0, 0, 0)).1]? = some (.code (db_my (y + 1)) (db_by (y + 1)) (db_ml (y + 1)) (db_rt (y + 1))) := by
  intro y hy
  match y, hy with
  | 0, _ => exact db_cw_1
  | 1, _ => exact db_cw_2
  | 2, _ => exact db_cw_3
  | 3, _ => exact db_cw_4
  | 4, _ => exact db_cw_5
  | 5, _ => exact db_cw_6
  | 6, _ => exact db_cw_7
  | 7, _ => exact db_cw_8
  | 8, _ => exact db_cw_9
  | 9, _ => exact db_cw_10
  | 10, _ => exact db_cw_11
  | 11, _ => exact db_cw_12
  | 12, _ => exact db_cw_13
  | 13, _ => exact db_cw_14
  | 14, _ => exact db_cw_15
  | 15, _ => exact db_cw_16
  | 16, _ => exact db_cw_17
  | 17, _ => exact db_cw_18
  | 18, _ => exact db_cw_19
  | 19, _ => exact db_cw_20
  | 20, _ => exact db_cw_21
  | 21, _ => exact db_cw_22
  | 22, _ => exact db_cw_23
  | 23, _ => exact db_cw_24
  | 24, _ => exact db_cw_25
  | 25, _ => exact db_cw_26
  | 26, _ => exact db_cw_27
  | 27, _ => exact db_cw_28
  | 28, _ => exact db_cw_29
  | 29, _ => exact db_cw_30
  | 30, _ => exact db_cw_31
  | 31, _ => exact db_cw_32
  | 32, _ => exact db_cw_33
  | 33, _ => exact db_cw_34
  | 34, _ => exact db_cw_35
  | 35, _ => exact db_cw_36
  | 36, _ => exact db_cw_37
  | 37, _ => exact db_cw_38
  | 38, _ => exact db_cw_39
  | 39, _ => exact db_cw_40
  | 40, _ => exact db_cw_41
  | 41, _ => exact db_cw_42
  | 42, _ => exact db_cw_43
  | 43, _ => exact db_cw_44
  | 44, _ => exact db_cw_45
  | 45, _ => exact db_cw_46
  | 46, _ => exact db_cw_47
  | 47, _ => exact db_cw_48
  | 48, _ => exact db_cw_49
  | 49, _ => exact db_cw_50
  | 50, _ => exact db_cw_51
  | 51, _ => exact db_cw_52
  | 52, _ => exact db_cw_53
  | 53, _ => exact db_cw_54
  | 54, _ => exact db_cw_55
  | 55, _ => exact db_cw_56
  | 56, _ => exact db_cw_57
  | 57, _ => exact db_cw_58
  | 58, _ => exact db_cw_59
  | 59, _ => exact db_cw_60
  | 60, _ => exact db_cw_61
  | 61, _ => exact db_cw_62
  | 62, _ => exact db_cw_63
  | 63, _ => exact db_cw_64
  | 64, _ => exact db_cw_65
  | 65, _ => exact db_cw_66
  | 66, _ => exact db_cw_67
  | 67, _ => exact db_cw_68
  | 68, _ => exact db_cw_69
  | 69, _ => exact db_cw_70
  | 70, _ => exact db_cw_71
  | 71, _ => exact db_cw_72
  | 72, _ => exact db_cw_73
  | 73, _ => exact db_cw_74
  | 74, _ => exact db_cw_75
  | 75, _ => exact db_cw_76
  | 76, _ => exact db_cw_77
  | 77, _ => exact db_cw_78
  | 78, _ => exact db_cw_79
  | 79, _ => exact db_cw_80
  | 80, _ => exact db_cw_81
  | 81, _ => exact db_cw_82
  | 82, _ => exact db_cw_83
  | 83, _ => exact db_cw_84
  | 84, _ => exact db_cw_85
  | 85, _ => exact db_cw_86
  | 86, _ => exact db_cw_87
  | 87, _ => exact db_cw_88
  | 88, _ => exact db_cw_89
  | 89, _ => exact db_cw_90
  | 90, _ => exact db_cw_91
  | 91, _ => exact db_cw_92
  | 92, _ => exact db_cw_93
  | 93, _ => exact db_cw_94
  | 94, _ => exact db_cw_95
  | 95, _ => exact db_cw_96
  | 96, _ => exact db_cw_97
  | 97, _ => exact db_cw_98
  | 98, _ => exact db_cw_99
  | 99, _ => exact db_cw_100
  | 100, _ => exact db_cw_101
  | 101, _ => exact db_cw_102
  | 102, _ => exact db_cw_103
  | 103, _ => exact db_cw_104
  | 104, _ => exact db_cw_105
  | 105, _ => exact db_cw_106
  | 106, _ => exact db_cw_107
  | 107, _ => exact db_cw_108
  | 108, _ => exact db_cw_109
  | 109, _ => exact db_cw_110
  | 110, _ => exact db_cw_111
  | 111, _ => exact db_cw_112
  | 112, _ => exact db_cw_113
  | 113, _ => exact db_cw_114
  | 114, _ => exact db_cw_115
  | 115, _ => exact db_cw_116
  | 116, _ => exact db_cw_117
  | 117, _ => exact db_cw_118
  | 118, _ => exact db_cw_119
  | 119, _ => exact db_cw_120
  | 120, _ => exact db_cw_121
  | 121, _ => exact db_cw_122
  | 122, _ => exact db_cw_123
  | 123, _ => exact db_cw_124
  | 124, _ => exact db_cw_125
  | 125, _ => exact db_cw_126
  | 126, _ => exact db_cw_127
  | 127, _ => exact db_cw_128
  | 128, _ => exact db_cw_129
  | 129, _ => exact db_cw_130
  | 130, _ => exact db_cw_131
  | 131, _ => exact db_cw_132
  | 132, _ => exact db_cw_133
  | 133, _ => exact db_cw_134
  | 134, _ => exact db_cw_135
  | 135, _ => exact db_cw_136
  | 136, _ => exact db_cw_137
  | 137, _ => exact db_cw_138
  | 138, _ => exact db_cw_139
  | 139, _ => exact db_cw_140
  | 140, _ => exact db_cw_141
  | 141, _ => exact db_cw_142
  | 142, _ => exact db_cw_143
  | 143, _ => exact db_cw_144
  | 144, _ => exact db_cw_145
  | 145, _ => exact db_cw_146
  | 146, _ => exact db_cw_147
  | 147, _ => exact db_cw_148
  | 148, _ => exact db_cw_149
  | 149, _ => exact db_cw_150
  | 150, _ => exact db_cw_151
  | 151, _ => exact db_cw_152
  | 152, _ => exact db_cw_153
  | 153, _ => exact db_cw_154
  | 154, _ => exact db_cw_155
  | 155, _ => exact db_cw_156
  | 156, _ => exact db_cw_157
  | 157, _ => exact db_cw_158
  | 158, _ => exact db_cw_159
  | 159, _ => exact db_cw_160
  | 160, _ => exact db_cw_161
  | 161, _ => exact db_cw_162
  | 162, _ => exact db_cw_163
  | 163, _ => exact db_cw_164
  | 164, _ => exact db_cw_165
  | 165, _ => exact db_cw_166
  | 166, _ => exact db_cw_167
  | 167, _ => exact db_cw_168
  | 168, _ => exact db_cw_169
  | 169, _ => exact db_cw_170
  | 170, _ => exact db_cw_171
  | 171, _ => exact db_cw_172
  | 172, _ => exact db_cw_173
  | 173, _ => exact db_cw_174
  | 174, _ => exact db_cw_175
  | y + 175, h => omega
