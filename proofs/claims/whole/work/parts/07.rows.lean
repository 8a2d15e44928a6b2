/-! What the tables say, as rows to rewrite with: printed by wip/gen.py. -/
theorem gn0 : gx_on 0 = 0 := rfl
theorem gv0 : gx_mL 0 = 2 := rfl
theorem gr0 : gx_ret 0 = (some .boolean) := rfl
theorem gn1 : gx_on 1 = 0 := rfl
theorem gv1 : gx_mL 1 = 2 := rfl
theorem gr1 : gx_ret 1 = (some .boolean) := rfl
theorem gn2 : gx_on 2 = 0 := rfl
theorem gv2 : gx_mL 2 = 1 := rfl
theorem gr2 : gx_ret 2 = (some .int) := rfl
theorem gn3 : gx_on 3 = 0 := rfl
theorem gv3 : gx_mL 3 = 5 := rfl
theorem gr3 : gx_ret 3 = (some .int) := rfl
theorem gn4 : gx_on 4 = 0 := rfl
theorem gv4 : gx_mL 4 = 2 := rfl
theorem gr4 : gx_ret 4 = (some .int) := rfl
theorem gn5 : gx_on 5 = 0 := rfl
theorem gv5 : gx_mL 5 = 2 := rfl
theorem gr5 : gx_ret 5 = (some .int) := rfl
theorem gn6 : gx_on 6 = 0 := rfl
theorem gv6 : gx_mL 6 = 5 := rfl
theorem gr6 : gx_ret 6 = (some .int) := rfl
theorem gn7 : gx_on 7 = 0 := rfl
theorem gv7 : gx_mL 7 = 5 := rfl
theorem gr7 : gx_ret 7 = (some .int) := rfl
theorem gn8 : gx_on 8 = 1 := rfl
theorem gv8 : gx_mL 8 = 2 := rfl
theorem gr8 : gx_ret 8 = none := rfl
theorem gn9 : gx_on 9 = 1 := rfl
theorem gv9 : gx_mL 9 = 6 := rfl
theorem gr9 : gx_ret 9 = none := rfl
theorem gn10 : gx_on 10 = 1 := rfl
theorem gv10 : gx_mL 10 = 4 := rfl
theorem gr10 : gx_ret 10 = none := rfl
theorem gn11 : gx_on 11 = 1 := rfl
theorem gv11 : gx_mL 11 = 2 := rfl
theorem gr11 : gx_ret 11 = none := rfl
theorem gn12 : gx_on 12 = 1 := rfl
theorem gv12 : gx_mL 12 = 2 := rfl
theorem gr12 : gx_ret 12 = none := rfl
theorem gn13 : gx_on 13 = 1 := rfl
theorem gv13 : gx_mL 13 = 2 := rfl
theorem gr13 : gx_ret 13 = none := rfl
theorem gn14 : gx_on 14 = 1 := rfl
theorem gv14 : gx_mL 14 = 3 := rfl
theorem gr14 : gx_ret 14 = (some .boolean) := rfl
theorem gn15 : gx_on 15 = 1 := rfl
theorem gv15 : gx_mL 15 = 4 := rfl
theorem gr15 : gx_ret 15 = (some .int) := rfl
theorem gn16 : gx_on 16 = 1 := rfl
theorem gv16 : gx_mL 16 = 2 := rfl
theorem gr16 : gx_ret 16 = none := rfl
theorem gn17 : gx_on 17 = 1 := rfl
theorem gv17 : gx_mL 17 = 7 := rfl
theorem gr17 : gx_ret 17 = (some .int) := rfl
theorem gn18 : gx_on 18 = 1 := rfl
theorem gv18 : gx_mL 18 = 9 := rfl
theorem gr18 : gx_ret 18 = (some .boolean) := rfl
theorem gn19 : gx_on 19 = 1 := rfl
theorem gv19 : gx_mL 19 = 5 := rfl
theorem gr19 : gx_ret 19 = (some .int) := rfl
theorem gn20 : gx_on 20 = 1 := rfl
theorem gv20 : gx_mL 20 = 5 := rfl
theorem gr20 : gx_ret 20 = none := rfl
theorem gn21 : gx_on 21 = 1 := rfl
theorem gv21 : gx_mL 21 = 2 := rfl
theorem gr21 : gx_ret 21 = (some .int) := rfl
theorem gn22 : gx_on 22 = 1 := rfl
theorem gv22 : gx_mL 22 = 3 := rfl
theorem gr22 : gx_ret 22 = (some .int) := rfl
theorem gn23 : gx_on 23 = 2 := rfl
theorem gv23 : gx_mL 23 = 3 := rfl
theorem gr23 : gx_ret 23 = (some .int) := rfl
theorem gn24 : gx_on 24 = 2 := rfl
theorem gv24 : gx_mL 24 = 5 := rfl
theorem gr24 : gx_ret 24 = none := rfl
theorem gn25 : gx_on 25 = 2 := rfl
theorem gv25 : gx_mL 25 = 3 := rfl
theorem gr25 : gx_ret 25 = (some .int) := rfl
theorem gn26 : gx_on 26 = 2 := rfl
theorem gv26 : gx_mL 26 = 6 := rfl
theorem gr26 : gx_ret 26 = none := rfl
theorem gn27 : gx_on 27 = 2 := rfl
theorem gv27 : gx_mL 27 = 4 := rfl
theorem gr27 : gx_ret 27 = (some .int) := rfl
theorem gn28 : gx_on 28 = 2 := rfl
theorem gv28 : gx_mL 28 = 5 := rfl
theorem gr28 : gx_ret 28 = none := rfl
theorem gn29 : gx_on 29 = 2 := rfl
theorem gv29 : gx_mL 29 = 5 := rfl
theorem gr29 : gx_ret 29 = (some .int) := rfl
theorem gn30 : gx_on 30 = 2 := rfl
theorem gv30 : gx_mL 30 = 5 := rfl
theorem gr30 : gx_ret 30 = none := rfl
theorem gn31 : gx_on 31 = 3 := rfl
theorem gv31 : gx_mL 31 = 1 := rfl
theorem gr31 : gx_ret 31 = (some .int) := rfl
theorem gn32 : gx_on 32 = 3 := rfl
theorem gv32 : gx_mL 32 = 4 := rfl
theorem gr32 : gx_ret 32 = (some .int) := rfl
theorem gn33 : gx_on 33 = 3 := rfl
theorem gv33 : gx_mL 33 = 3 := rfl
theorem gr33 : gx_ret 33 = (some .int) := rfl
theorem gn34 : gx_on 34 = 3 := rfl
theorem gv34 : gx_mL 34 = 5 := rfl
theorem gr34 : gx_ret 34 = (some .int) := rfl
theorem gn35 : gx_on 35 = 3 := rfl
theorem gv35 : gx_mL 35 = 4 := rfl
theorem gr35 : gx_ret 35 = (some .int) := rfl
theorem gn36 : gx_on 36 = 3 := rfl
theorem gv36 : gx_mL 36 = 2 := rfl
theorem gr36 : gx_ret 36 = (some .int) := rfl
theorem gn37 : gx_on 37 = 3 := rfl
theorem gv37 : gx_mL 37 = 1 := rfl
theorem gr37 : gx_ret 37 = (some .int) := rfl
theorem gn38 : gx_on 38 = 3 := rfl
theorem gv38 : gx_mL 38 = 1 := rfl
theorem gr38 : gx_ret 38 = (some .int) := rfl
theorem gn39 : gx_on 39 = 3 := rfl
theorem gv39 : gx_mL 39 = 2 := rfl
theorem gr39 : gx_ret 39 = (some .int) := rfl
theorem gn40 : gx_on 40 = 3 := rfl
theorem gv40 : gx_mL 40 = 3 := rfl
theorem gr40 : gx_ret 40 = (some .int) := rfl
theorem gn41 : gx_on 41 = 3 := rfl
theorem gv41 : gx_mL 41 = 4 := rfl
theorem gr41 : gx_ret 41 = (some .int) := rfl
theorem gn42 : gx_on 42 = 3 := rfl
theorem gv42 : gx_mL 42 = 2 := rfl
theorem gr42 : gx_ret 42 = (some .int) := rfl
theorem gn43 : gx_on 43 = 3 := rfl
theorem gv43 : gx_mL 43 = 2 := rfl
theorem gr43 : gx_ret 43 = (some .int) := rfl
theorem gn44 : gx_on 44 = 3 := rfl
theorem gv44 : gx_mL 44 = 2 := rfl
theorem gr44 : gx_ret 44 = (some .int) := rfl
theorem gn45 : gx_on 45 = 3 := rfl
theorem gv45 : gx_mL 45 = 2 := rfl
theorem gr45 : gx_ret 45 = (some .int) := rfl
theorem gn46 : gx_on 46 = 3 := rfl
theorem gv46 : gx_mL 46 = 1 := rfl
theorem gr46 : gx_ret 46 = (some .int) := rfl
theorem gn47 : gx_on 47 = 3 := rfl
theorem gv47 : gx_mL 47 = 3 := rfl
theorem gr47 : gx_ret 47 = (some .int) := rfl
theorem gn48 : gx_on 48 = 3 := rfl
theorem gv48 : gx_mL 48 = 1 := rfl
theorem gr48 : gx_ret 48 = (some .boolean) := rfl
theorem gn49 : gx_on 49 = 3 := rfl
theorem gv49 : gx_mL 49 = 2 := rfl
theorem gr49 : gx_ret 49 = (some .boolean) := rfl
theorem gn50 : gx_on 50 = 3 := rfl
theorem gv50 : gx_mL 50 = 1 := rfl
theorem gr50 : gx_ret 50 = (some .int) := rfl
theorem gn51 : gx_on 51 = 3 := rfl
theorem gv51 : gx_mL 51 = 1 := rfl
theorem gr51 : gx_ret 51 = (some .int) := rfl
theorem gn52 : gx_on 52 = 3 := rfl
theorem gv52 : gx_mL 52 = 1 := rfl
theorem gr52 : gx_ret 52 = none := rfl
theorem gn53 : gx_on 53 = 3 := rfl
theorem gv53 : gx_mL 53 = 1 := rfl
theorem gr53 : gx_ret 53 = (some .boolean) := rfl
theorem gn54 : gx_on 54 = 3 := rfl
theorem gv54 : gx_mL 54 = 3 := rfl
theorem gr54 : gx_ret 54 = (some (.array .int)) := rfl
theorem gn55 : gx_on 55 = 3 := rfl
theorem gv55 : gx_mL 55 = 4 := rfl
theorem gr55 : gx_ret 55 = none := rfl
theorem gn56 : gx_on 56 = 3 := rfl
theorem gv56 : gx_mL 56 = 3 := rfl
theorem gr56 : gx_ret 56 = none := rfl
theorem gn57 : gx_on 57 = 3 := rfl
theorem gv57 : gx_mL 57 = 2 := rfl
theorem gr57 : gx_ret 57 = none := rfl
theorem gn58 : gx_on 58 = 3 := rfl
theorem gv58 : gx_mL 58 = 3 := rfl
theorem gr58 : gx_ret 58 = (some .int) := rfl
theorem gn59 : gx_on 59 = 3 := rfl
theorem gv59 : gx_mL 59 = 3 := rfl
theorem gr59 : gx_ret 59 = none := rfl
theorem gn60 : gx_on 60 = 3 := rfl
theorem gv60 : gx_mL 60 = 1 := rfl
theorem gr60 : gx_ret 60 = none := rfl
theorem gn61 : gx_on 61 = 4 := rfl
theorem gv61 : gx_mL 61 = 5 := rfl
theorem gr61 : gx_ret 61 = none := rfl
theorem gn62 : gx_on 62 = 4 := rfl
theorem gv62 : gx_mL 62 = 4 := rfl
theorem gr62 : gx_ret 62 = none := rfl
theorem gn63 : gx_on 63 = 4 := rfl
theorem gv63 : gx_mL 63 = 5 := rfl
theorem gr63 : gx_ret 63 = (some .boolean) := rfl
theorem gn64 : gx_on 64 = 4 := rfl
theorem gv64 : gx_mL 64 = 6 := rfl
theorem gr64 : gx_ret 64 = (some .boolean) := rfl
theorem gn65 : gx_on 65 = 4 := rfl
theorem gv65 : gx_mL 65 = 2 := rfl
theorem gr65 : gx_ret 65 = none := rfl
theorem gn66 : gx_on 66 = 4 := rfl
theorem gv66 : gx_mL 66 = 4 := rfl
theorem gr66 : gx_ret 66 = (some .int) := rfl
theorem gn67 : gx_on 67 = 4 := rfl
theorem gv67 : gx_mL 67 = 4 := rfl
theorem gr67 : gx_ret 67 = (some .int) := rfl
theorem gn68 : gx_on 68 = 4 := rfl
theorem gv68 : gx_mL 68 = 6 := rfl
theorem gr68 : gx_ret 68 = none := rfl
theorem gn69 : gx_on 69 = 4 := rfl
theorem gv69 : gx_mL 69 = 2 := rfl
theorem gr69 : gx_ret 69 = none := rfl
theorem gn70 : gx_on 70 = 4 := rfl
theorem gv70 : gx_mL 70 = 1 := rfl
theorem gr70 : gx_ret 70 = none := rfl
theorem gn71 : gx_on 71 = 4 := rfl
theorem gv71 : gx_mL 71 = 5 := rfl
theorem gr71 : gx_ret 71 = (some .int) := rfl
theorem gn72 : gx_on 72 = 4 := rfl
theorem gv72 : gx_mL 72 = 5 := rfl
theorem gr72 : gx_ret 72 = (some .int) := rfl
theorem gn73 : gx_on 73 = 4 := rfl
theorem gv73 : gx_mL 73 = 3 := rfl
theorem gr73 : gx_ret 73 = (some .int) := rfl
theorem gn74 : gx_on 74 = 4 := rfl
theorem gv74 : gx_mL 74 = 5 := rfl
theorem gr74 : gx_ret 74 = (some .int) := rfl
theorem gn75 : gx_on 75 = 4 := rfl
theorem gv75 : gx_mL 75 = 5 := rfl
theorem gr75 : gx_ret 75 = none := rfl
theorem gn76 : gx_on 76 = 4 := rfl
theorem gv76 : gx_mL 76 = 2 := rfl
theorem gr76 : gx_ret 76 = none := rfl
theorem gn77 : gx_on 77 = 4 := rfl
theorem gv77 : gx_mL 77 = 2 := rfl
theorem gr77 : gx_ret 77 = (some .int) := rfl
theorem gn78 : gx_on 78 = 4 := rfl
theorem gv78 : gx_mL 78 = 6 := rfl
theorem gr78 : gx_ret 78 = none := rfl
theorem gn79 : gx_on 79 = 4 := rfl
theorem gv79 : gx_mL 79 = 2 := rfl
theorem gr79 : gx_ret 79 = (some .boolean) := rfl
theorem gn80 : gx_on 80 = 4 := rfl
theorem gv80 : gx_mL 80 = 2 := rfl
theorem gr80 : gx_ret 80 = (some .boolean) := rfl
theorem gn81 : gx_on 81 = 4 := rfl
theorem gv81 : gx_mL 81 = 2 := rfl
theorem gr81 : gx_ret 81 = (some .boolean) := rfl
theorem gn82 : gx_on 82 = 4 := rfl
theorem gv82 : gx_mL 82 = 1 := rfl
theorem gr82 : gx_ret 82 = (some .int) := rfl
theorem gn83 : gx_on 83 = 4 := rfl
theorem gv83 : gx_mL 83 = 4 := rfl
theorem gr83 : gx_ret 83 = (some .int) := rfl
theorem gn84 : gx_on 84 = 4 := rfl
theorem gv84 : gx_mL 84 = 3 := rfl
theorem gr84 : gx_ret 84 = (some .int) := rfl
theorem gn85 : gx_on 85 = 4 := rfl
theorem gv85 : gx_mL 85 = 5 := rfl
theorem gr85 : gx_ret 85 = (some .int) := rfl
theorem gn86 : gx_on 86 = 4 := rfl
theorem gv86 : gx_mL 86 = 4 := rfl
theorem gr86 : gx_ret 86 = (some .int) := rfl
theorem gn87 : gx_on 87 = 4 := rfl
theorem gv87 : gx_mL 87 = 4 := rfl
theorem gr87 : gx_ret 87 = (some .int) := rfl
theorem gn88 : gx_on 88 = 4 := rfl
theorem gv88 : gx_mL 88 = 2 := rfl
theorem gr88 : gx_ret 88 = (some .int) := rfl
theorem gn89 : gx_on 89 = 4 := rfl
theorem gv89 : gx_mL 89 = 1 := rfl
theorem gr89 : gx_ret 89 = (some .int) := rfl
theorem gn90 : gx_on 90 = 4 := rfl
theorem gv90 : gx_mL 90 = 1 := rfl
theorem gr90 : gx_ret 90 = (some .boolean) := rfl
theorem gn91 : gx_on 91 = 4 := rfl
theorem gv91 : gx_mL 91 = 2 := rfl
theorem gr91 : gx_ret 91 = (some .int) := rfl
theorem gn92 : gx_on 92 = 4 := rfl
theorem gv92 : gx_mL 92 = 3 := rfl
theorem gr92 : gx_ret 92 = (some .int) := rfl
theorem gn93 : gx_on 93 = 4 := rfl
theorem gv93 : gx_mL 93 = 5 := rfl
theorem gr93 : gx_ret 93 = (some .int) := rfl
theorem gn94 : gx_on 94 = 4 := rfl
theorem gv94 : gx_mL 94 = 3 := rfl
theorem gr94 : gx_ret 94 = (some .int) := rfl
theorem gn95 : gx_on 95 = 4 := rfl
theorem gv95 : gx_mL 95 = 2 := rfl
theorem gr95 : gx_ret 95 = (some .int) := rfl
theorem gn96 : gx_on 96 = 4 := rfl
theorem gv96 : gx_mL 96 = 2 := rfl
theorem gr96 : gx_ret 96 = (some .int) := rfl
theorem gn97 : gx_on 97 = 4 := rfl
theorem gv97 : gx_mL 97 = 2 := rfl
theorem gr97 : gx_ret 97 = (some .int) := rfl
theorem gn98 : gx_on 98 = 4 := rfl
theorem gv98 : gx_mL 98 = 4 := rfl
theorem gr98 : gx_ret 98 = (some .int) := rfl
theorem gn99 : gx_on 99 = 4 := rfl
theorem gv99 : gx_mL 99 = 1 := rfl
theorem gr99 : gx_ret 99 = (some .int) := rfl
theorem gn100 : gx_on 100 = 4 := rfl
theorem gv100 : gx_mL 100 = 3 := rfl
theorem gr100 : gx_ret 100 = (some .int) := rfl
theorem gn101 : gx_on 101 = 5 := rfl
theorem gv101 : gx_mL 101 = 1 := rfl
theorem gr101 : gx_ret 101 = (some .int) := rfl
theorem gn102 : gx_on 102 = 5 := rfl
theorem gv102 : gx_mL 102 = 2 := rfl
theorem gr102 : gx_ret 102 = (some .int) := rfl
theorem gn103 : gx_on 103 = 5 := rfl
theorem gv103 : gx_mL 103 = 2 := rfl
theorem gr103 : gx_ret 103 = (some .int) := rfl
theorem gn104 : gx_on 104 = 6 := rfl
theorem gv104 : gx_mL 104 = 4 := rfl
theorem gr104 : gx_ret 104 = none := rfl
theorem gf0_9 : gx_fl 0 9 = some (0, 0) := rfl
theorem gf0_15 : gx_fl 0 15 = some (0, 1) := rfl
theorem gf0_18 : gx_fl 0 18 = some (0, 2) := rfl
theorem gf0_21 : gx_fl 0 21 = some (0, 3) := rfl
theorem gf0_24 : gx_fl 0 24 = some (0, 4) := rfl
theorem gf0_27 : gx_fl 0 27 = some (0, 5) := rfl
theorem gf0_30 : gx_fl 0 30 = some (0, 6) := rfl
theorem gf0_34 : gx_fl 0 34 = some (0, 7) := rfl
theorem gf0_38 : gx_fl 0 38 = some (0, 8) := rfl
theorem gf0_41 : gx_fl 0 41 = some (0, 9) := rfl
theorem gf1_9 : gx_fl 1 9 = some (1, 0) := rfl
theorem gf1_15 : gx_fl 1 15 = some (1, 1) := rfl
theorem gf1_18 : gx_fl 1 18 = some (1, 2) := rfl
theorem gf1_21 : gx_fl 1 21 = some (1, 3) := rfl
theorem gf1_24 : gx_fl 1 24 = some (1, 4) := rfl
theorem gf1_27 : gx_fl 1 27 = some (1, 5) := rfl
theorem gf1_31 : gx_fl 1 31 = some (1, 6) := rfl
theorem gf1_34 : gx_fl 1 34 = some (1, 7) := rfl
theorem gf1_37 : gx_fl 1 37 = some (1, 8) := rfl
theorem gf1_40 : gx_fl 1 40 = some (1, 9) := rfl
theorem gf2_9 : gx_fl 2 9 = some (2, 0) := rfl
theorem gf2_15 : gx_fl 2 15 = some (2, 1) := rfl
theorem gf2_18 : gx_fl 2 18 = some (2, 3) := rfl
theorem gf2_21 : gx_fl 2 21 = some (2, 4) := rfl
theorem gf2_24 : gx_fl 2 24 = some (2, 5) := rfl
theorem gf2_27 : gx_fl 2 27 = some (2, 6) := rfl
theorem gf2_30 : gx_fl 2 30 = some (2, 7) := rfl
theorem gf2_33 : gx_fl 2 33 = some (2, 2) := rfl
theorem gf2_43 : gx_fl 2 43 = some (0, 7) := rfl
theorem gf2_69 : gx_fl 2 69 = some (0, 0) := rfl
theorem gf2_93 : gx_fl 2 93 = some (0, 3) := rfl
theorem gf2_96 : gx_fl 2 96 = some (0, 8) := rfl
theorem gf2_99 : gx_fl 2 99 = some (0, 2) := rfl
theorem gf3_12 : gx_fl 3 12 = some (3, 0) := rfl
theorem gf3_19 : gx_fl 3 19 = some (3, 1) := rfl
theorem gf3_26 : gx_fl 3 26 = some (3, 2) := rfl
theorem gf3_30 : gx_fl 3 30 = some (3, 3) := rfl
theorem gf3_36 : gx_fl 3 36 = some (3, 4) := rfl
theorem gf3_39 : gx_fl 3 39 = some (3, 5) := rfl
theorem gf3_43 : gx_fl 3 43 = some (3, 6) := rfl
theorem gf3_46 : gx_fl 3 46 = some (0, 7) := rfl
theorem gf3_61 : gx_fl 3 61 = some (0, 0) := rfl
theorem gf3_65 : gx_fl 3 65 = some (0, 1) := rfl
theorem gf3_72 : gx_fl 3 72 = some (0, 8) := rfl
theorem gf3_82 : gx_fl 3 82 = some (0, 4) := rfl
theorem gf3_85 : gx_fl 3 85 = some (0, 5) := rfl
theorem gf3_125 : gx_fl 3 125 = some (1, 1) := rfl
theorem gf3_131 : gx_fl 3 131 = some (3, 8) := rfl
theorem gf3_138 : gx_fl 3 138 = some (3, 7) := rfl
theorem gf3_144 : gx_fl 3 144 = some (2, 2) := rfl
theorem gf3_147 : gx_fl 3 147 = some (2, 0) := rfl
theorem gf3_150 : gx_fl 3 150 = some (2, 1) := rfl
theorem gf3_156 : gx_fl 3 156 = some (3, 10) := rfl
theorem gf3_159 : gx_fl 3 159 = some (3, 9) := rfl
theorem gf3_168 : gx_fl 3 168 = some (3, 11) := rfl
theorem gf3_202 : gx_fl 3 202 = some (0, 2) := rfl
theorem gf3_205 : gx_fl 3 205 = some (0, 3) := rfl
theorem gf3_208 : gx_fl 3 208 = some (1, 0) := rfl
theorem gf4_7 : gx_fl 4 7 = some (4, 1) := rfl
theorem gf4_13 : gx_fl 4 13 = some (4, 2) := rfl
theorem gf4_16 : gx_fl 4 16 = some (4, 4) := rfl
theorem gf4_19 : gx_fl 4 19 = some (4, 5) := rfl
theorem gf4_22 : gx_fl 4 22 = some (4, 6) := rfl
theorem gf4_25 : gx_fl 4 25 = some (4, 7) := rfl
theorem gf4_28 : gx_fl 4 28 = some (4, 8) := rfl
theorem gf4_32 : gx_fl 4 32 = some (4, 10) := rfl
theorem gf4_35 : gx_fl 4 35 = some (4, 11) := rfl
theorem gf4_38 : gx_fl 4 38 = some (4, 12) := rfl
theorem gf4_41 : gx_fl 4 41 = some (4, 13) := rfl
theorem gf4_44 : gx_fl 4 44 = some (4, 14) := rfl
theorem gf4_47 : gx_fl 4 47 = some (4, 15) := rfl
theorem gf4_50 : gx_fl 4 50 = some (4, 18) := rfl
theorem gf4_53 : gx_fl 4 53 = some (4, 19) := rfl
theorem gf4_56 : gx_fl 4 56 = some (4, 20) := rfl
theorem gf4_59 : gx_fl 4 59 = some (4, 22) := rfl
theorem gf4_62 : gx_fl 4 62 = some (4, 23) := rfl
theorem gf4_65 : gx_fl 4 65 = some (4, 24) := rfl
theorem gf4_68 : gx_fl 4 68 = some (4, 25) := rfl
theorem gf4_71 : gx_fl 4 71 = some (4, 26) := rfl
theorem gf4_74 : gx_fl 4 74 = some (4, 27) := rfl
theorem gf4_77 : gx_fl 4 77 = some (4, 28) := rfl
theorem gf4_80 : gx_fl 4 80 = some (4, 16) := rfl
theorem gf4_84 : gx_fl 4 84 = some (4, 3) := rfl
theorem gf4_91 : gx_fl 4 91 = some (4, 0) := rfl
theorem gf4_117 : gx_fl 4 117 = some (4, 9) := rfl
theorem gf4_121 : gx_fl 4 121 = some (4, 17) := rfl
theorem gf4_134 : gx_fl 4 134 = some (4, 21) := rfl
theorem gc1_89 : gx_cn 1 89 = some 100000 := rfl
theorem gc2_105 : gx_cn 2 105 = some 100000 := rfl
theorem gc3_64 : gx_cn 3 64 = some 100000 := rfl
theorem gc4_94 : gx_cn 4 94 = some 1000000 := rfl
theorem gc4_165 : gx_cn 4 165 = some 100000 := rfl
theorem gm1_43 : gx_ml 1 43 = some (104, 2, false) := rfl
theorem gm1_49 : gx_ml 1 49 = some (10, 3, true) := rfl
theorem gm1_59 : gx_ml 1 59 = some (15, 3, true) := rfl
theorem gm1_63 : gx_ml 1 63 = some (103, 2, false) := rfl
theorem gm1_68 : gx_ml 1 68 = some (17, 4, true) := rfl
theorem gm1_72 : gx_ml 1 72 = some (18, 3, true) := rfl
theorem gm1_76 : gx_ml 1 76 = some (19, 2, true) := rfl
theorem gm1_80 : gx_ml 1 80 = some (20, 3, true) := rfl
theorem gm1_83 : gx_ml 1 83 = some (21, 2, true) := rfl
theorem gm1_86 : gx_ml 1 86 = some (22, 2, true) := rfl
theorem gm2_48 : gx_ml 2 48 = some (7, 3, true) := rfl
theorem gm2_52 : gx_ml 2 52 = some (6, 3, true) := rfl
theorem gm2_55 : gx_ml 2 55 = some (101, 1, false) := rfl
theorem gm2_61 : gx_ml 2 61 = some (25, 2, true) := rfl
theorem gm2_65 : gx_ml 2 65 = some (26, 3, true) := rfl
theorem gm2_72 : gx_ml 2 72 = some (104, 2, false) := rfl
theorem gm2_78 : gx_ml 2 78 = some (28, 4, true) := rfl
theorem gm2_82 : gx_ml 2 82 = some (29, 3, true) := rfl
theorem gm2_86 : gx_ml 2 86 = some (30, 4, true) := rfl
theorem gm2_89 : gx_ml 2 89 = some (27, 3, true) := rfl
theorem gm2_102 : gx_ml 2 102 = some (103, 2, false) := rfl
theorem gm3_50 : gx_ml 3 50 = some (52, 1, true) := rfl
theorem gm3_53 : gx_ml 3 53 = some (2, 1, true) := rfl
theorem gm3_57 : gx_ml 3 57 = some (0, 2, true) := rfl
theorem gm3_68 : gx_ml 3 68 = some (49, 2, false) := rfl
theorem gm3_75 : gx_ml 3 75 = some (3, 5, true) := rfl
theorem gm3_79 : gx_ml 3 79 = some (1, 2, true) := rfl
theorem gm3_88 : gx_ml 3 88 = some (4, 2, true) := rfl
theorem gm3_92 : gx_ml 3 92 = some (5, 1, true) := rfl
theorem gm3_95 : gx_ml 3 95 = some (53, 1, true) := rfl
theorem gm3_99 : gx_ml 3 99 = some (48, 1, false) := rfl
theorem gm3_102 : gx_ml 3 102 = some (54, 2, true) := rfl
theorem gm3_106 : gx_ml 3 106 = some (6, 3, true) := rfl
theorem gm3_110 : gx_ml 3 110 = some (7, 3, true) := rfl
theorem gm3_113 : gx_ml 3 113 = some (102, 2, false) := rfl
theorem gm3_119 : gx_ml 3 119 = some (58, 3, true) := rfl
theorem gm3_122 : gx_ml 3 122 = some (57, 1, true) := rfl
theorem gm3_128 : gx_ml 3 128 = some (15, 3, true) := rfl
theorem gm3_135 : gx_ml 3 135 = some (59, 1, true) := rfl
theorem gm3_141 : gx_ml 3 141 = some (60, 1, true) := rfl
theorem gm3_153 : gx_ml 3 153 = some (23, 3, true) := rfl
theorem gm3_162 : gx_ml 3 162 = some (55, 1, true) := rfl
theorem gm3_165 : gx_ml 3 165 = some (14, 1, true) := rfl
theorem gm3_171 : gx_ml 3 171 = some (11, 2, true) := rfl
theorem gm3_175 : gx_ml 3 175 = some (12, 2, true) := rfl
theorem gm3_178 : gx_ml 3 178 = some (16, 2, true) := rfl
theorem gm3_182 : gx_ml 3 182 = some (13, 2, true) := rfl
theorem gm3_185 : gx_ml 3 185 = some (8, 1, true) := rfl
theorem gm3_188 : gx_ml 3 188 = some (50, 1, false) := rfl
theorem gm3_191 : gx_ml 3 191 = some (51, 1, false) := rfl
theorem gm3_194 : gx_ml 3 194 = some (9, 6, true) := rfl
theorem gm3_198 : gx_ml 3 198 = some (56, 3, true) := rfl
theorem gm3_211 : gx_ml 3 211 = some (24, 3, true) := rfl
theorem gm4_87 : gx_ml 4 87 = some (61, 5, true) := rfl
theorem gm4_95 : gx_ml 4 95 = some (62, 3, true) := rfl
theorem gm4_99 : gx_ml 4 99 = some (63, 1, true) := rfl
theorem gm4_103 : gx_ml 4 103 = some (64, 3, true) := rfl
theorem gm4_107 : gx_ml 4 107 = some (65, 1, true) := rfl
theorem gm4_110 : gx_ml 4 110 = some (66, 1, true) := rfl
theorem gm4_114 : gx_ml 4 114 = some (67, 1, true) := rfl
theorem gm4_124 : gx_ml 4 124 = some (68, 2, true) := rfl
theorem gm4_128 : gx_ml 4 128 = some (76, 1, true) := rfl
theorem gm4_131 : gx_ml 4 131 = some (69, 1, true) := rfl
theorem gm4_137 : gx_ml 4 137 = some (72, 3, true) := rfl
theorem gm4_141 : gx_ml 4 141 = some (71, 3, true) := rfl
theorem gm4_144 : gx_ml 4 144 = some (77, 1, true) := rfl
theorem gm4_147 : gx_ml 4 147 = some (78, 2, true) := rfl
theorem gm4_150 : gx_ml 4 150 = some (73, 2, true) := rfl
theorem gm4_154 : gx_ml 4 154 = some (74, 3, true) := rfl
theorem gm4_157 : gx_ml 4 157 = some (75, 4, true) := rfl
theorem gm4_161 : gx_ml 4 161 = some (79, 2, true) := rfl
theorem gm4_166 : gx_ml 4 166 = some (81, 2, false) := rfl
theorem gm4_169 : gx_ml 4 169 = some (80, 2, true) := rfl
theorem gm4_172 : gx_ml 4 172 = some (70, 1, true) := rfl
theorem gm4_175 : gx_ml 4 175 = some (90, 1, false) := rfl
theorem gm4_178 : gx_ml 4 178 = some (94, 3, true) := rfl
theorem gm1_53 : gx_ml 1 53 = none := rfl
theorem ga1_53 : gx_aT.lookup (1, 53) = some () := rfl
theorem gm2_37 : gx_ml 2 37 = none := rfl
theorem ga2_37 : gx_aT.lookup (2, 37) = some () := rfl
theorem gl0 : gx_at 0 = some (.inr (.inl (3, [some 1, some 2, some 3, some 28, some 29, some 32, some 33, none, none, none, none, none]))) := rfl
theorem gl1 : gx_at 1 = some (.inr (.inl (0, [some 4, some 5, some 6, some 7, some 8, some 9, some 10, none, none, none]))) := rfl
theorem gl2 : gx_at 2 = some (.inr (.inl (1, [some 11, some 12, some 13, some 14, some 15, some 16, some 17, some 18, some 19, some 20]))) := rfl
theorem gl3 : gx_at 3 = some (.inr (.inl (2, [some 21, some 22, none, some 23, some 24, some 25, some 26, some 27]))) := rfl
theorem gl4 : gx_at 4 = some (.inl (.int, 10)) := rfl
theorem gl5 : gx_at 5 = some (.inl (.int, 10)) := rfl
theorem gl6 : gx_at 6 = some (.inl (.int, 40)) := rfl
theorem gl7 : gx_at 7 = some (.inl (.int, 40)) := rfl
theorem gl8 : gx_at 8 = some (.inl (.int, 40)) := rfl
theorem gl9 : gx_at 9 = some (.inl (.int, 40)) := rfl
theorem gl10 : gx_at 10 = some (.inl (.boolean, 40)) := rfl
theorem gl11 : gx_at 11 = some (.inl (.int, 61)) := rfl
theorem gl12 : gx_at 12 = some (.inl (.int, 61)) := rfl
theorem gl13 : gx_at 13 = some (.inl (.int, 61)) := rfl
theorem gl14 : gx_at 14 = some (.inl (.int, 61)) := rfl
theorem gl15 : gx_at 15 = some (.inl (.int, 61)) := rfl
theorem gl16 : gx_at 16 = some (.inl (.boolean, 61)) := rfl
theorem gl17 : gx_at 17 = some (.inl (.int, 924)) := rfl
theorem gl18 : gx_at 18 = some (.inl (.int, 22)) := rfl
theorem gl19 : gx_at 19 = some (.inl (.int, 22)) := rfl
theorem gl20 : gx_at 20 = some (.inl (.int, 22)) := rfl
theorem gl21 : gx_at 21 = some (.inl (.int, 50)) := rfl
theorem gl22 : gx_at 22 = some (.inl (.int, 50)) := rfl
theorem gl23 : gx_at 23 = some (.inl (.int, 500)) := rfl
theorem gl24 : gx_at 24 = some (.inl (.int, 40)) := rfl
theorem gl25 : gx_at 25 = some (.inl (.int, 10)) := rfl
theorem gl26 : gx_at 26 = some (.inl (.int, 10)) := rfl
theorem gl27 : gx_at 27 = some (.inl (.int, 10)) := rfl
theorem gl28 : gx_at 28 = some (.inl (.int, 61)) := rfl
theorem gl29 : gx_at 29 = some (.inr (.inr [30, 31])) := rfl
theorem gl30 : gx_at 30 = some (.inl (.int, 61)) := rfl
theorem gl31 : gx_at 31 = some (.inl (.int, 61)) := rfl
theorem gl32 : gx_at 32 = some (.inl (.boolean, 2)) := rfl
theorem gl33 : gx_at 33 = some (.inl (.int, 40)) := rfl
theorem gl34 : gx_at 34 = some (.inr (.inl (4, [none, some 35, some 36, none, some 37, some 38, some 39, some 40, some 41, none, some 42, some 43, some 44, some 45, some 46, some 47, none, none, some 48, some 49, some 50, none, some 51, some 52, some 53, some 54, some 55, some 56, some 57]))) := rfl
theorem gl35 : gx_at 35 = some (.inl (.int, 10)) := rfl
theorem gl36 : gx_at 36 = some (.inl (.int, 10)) := rfl
theorem gl37 : gx_at 37 = some (.inl (.int, 40)) := rfl
theorem gl38 : gx_at 38 = some (.inl (.int, 40)) := rfl
theorem gl39 : gx_at 39 = some (.inl (.int, 40)) := rfl
theorem gl40 : gx_at 40 = some (.inl (.int, 40)) := rfl
theorem gl41 : gx_at 41 = some (.inl (.boolean, 40)) := rfl
theorem gl42 : gx_at 42 = some (.inl (.int, 40)) := rfl
theorem gl43 : gx_at 43 = some (.inl (.int, 40)) := rfl
theorem gl44 : gx_at 44 = some (.inl (.int, 10)) := rfl
theorem gl45 : gx_at 45 = some (.inl (.int, 576)) := rfl
theorem gl46 : gx_at 46 = some (.inl (.int, 24)) := rfl
theorem gl47 : gx_at 47 = some (.inl (.int, 24)) := rfl
theorem gl48 : gx_at 48 = some (.inl (.int, 2)) := rfl
theorem gl49 : gx_at 49 = some (.inl (.int, 80)) := rfl
theorem gl50 : gx_at 50 = some (.inl (.boolean, 40)) := rfl
theorem gl51 : gx_at 51 = some (.inl (.int, 80)) := rfl
theorem gl52 : gx_at 52 = some (.inl (.int, 80)) := rfl
theorem gl53 : gx_at 53 = some (.inl (.int, 800)) := rfl
theorem gl54 : gx_at 54 = some (.inl (.int, 40)) := rfl
theorem gl55 : gx_at 55 = some (.inl (.int, 10)) := rfl
theorem gl56 : gx_at 56 = some (.inl (.int, 12)) := rfl
theorem gl57 : gx_at 57 = some (.inl (.int, 10)) := rfl
theorem gt0_7 : gx_ty 0 7 = .int := rfl
theorem gt0_8 : gx_ty 0 8 = .int := rfl
theorem gt0_9 : gx_ty 0 9 = .int := rfl
theorem gt2_2 : gx_ty 2 2 = .int := rfl
theorem gt3_7 : gx_ty 3 7 = .int := rfl
theorem gt3_8 : gx_ty 3 8 = .boolean := rfl
theorem gt3_9 : gx_ty 3 9 = .boolean := rfl
theorem gt3_10 : gx_ty 3 10 = .boolean := rfl
theorem gt3_11 : gx_ty 3 11 = .boolean := rfl
theorem gt4_0 : gx_ty 4 0 = .int := rfl
theorem gt4_3 : gx_ty 4 3 = .int := rfl
theorem gt4_9 : gx_ty 4 9 = .boolean := rfl
theorem gt4_16 : gx_ty 4 16 = .int := rfl
theorem gt4_17 : gx_ty 4 17 = .boolean := rfl
theorem gt4_21 : gx_ty 4 21 = .int := rfl
theorem gk_bipush_m4 : (Int8.ofInt (-4)).toInt32 = (-4) := by decide
theorem gk_bipush_m3 : (Int8.ofInt (-3)).toInt32 = (-3) := by decide
theorem gk_bipush_m2 : (Int8.ofInt (-2)).toInt32 = (-2) := by decide
theorem gk_bipush_10 : (Int8.ofInt 10).toInt32 = 10 := by decide
theorem gk_bipush_20 : (Int8.ofInt 20).toInt32 = 20 := by decide
theorem gk_bipush_21 : (Int8.ofInt 21).toInt32 = 21 := by decide
theorem gk_bipush_22 : (Int8.ofInt 22).toInt32 = 22 := by decide
theorem gk_bipush_23 : (Int8.ofInt 23).toInt32 = 23 := by decide
theorem gk_bipush_24 : (Int8.ofInt 24).toInt32 = 24 := by decide
theorem gk_bipush_40 : (Int8.ofInt 40).toInt32 = 40 := by decide
theorem gk_bipush_42 : (Int8.ofInt 42).toInt32 = 42 := by decide
theorem gk_bipush_50 : (Int8.ofInt 50).toInt32 = 50 := by decide
theorem gk_bipush_60 : (Int8.ofInt 60).toInt32 = 60 := by decide
theorem gk_bipush_61 : (Int8.ofInt 61).toInt32 = 61 := by decide
theorem gk_iconst_m1 : Int32.ofInt (-1) = (-1) := by decide
theorem gk_iconst_0 : Int32.ofInt 0 = 0 := by decide
theorem gk_iconst_1 : Int32.ofInt 1 = 1 := by decide
theorem gk_iconst_2 : Int32.ofInt 2 = 2 := by decide
theorem gk_sipush_528 : (Int16.ofInt 528).toInt32 = 528 := by decide
theorem gk_sipush_576 : (Int16.ofInt 576).toInt32 = 576 := by decide
theorem gk_sipush_1000 : (Int16.ofInt 1000).toInt32 = 1000 := by decide
