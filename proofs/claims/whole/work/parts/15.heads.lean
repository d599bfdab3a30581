/-! locals and answers of each method (by program: wip/whole/gen_rows.py) -/
theorem zm1 : zq_ml 1 = 1 := by decide +kernel
theorem zi1 : (zq_i 1).1 = 4 ∧ (zq_i 1).2.1 = 0 ∧ (zq_i 1).2.2.1 = 2 := by decide +kernel
theorem zt1 : zq_rt 1 = none := by decide +kernel
theorem zm2 : zq_ml 2 = 4 := by decide +kernel
theorem zi2 : (zq_i 2).1 = 4 ∧ (zq_i 2).2.1 = 2 ∧ (zq_i 2).2.2.1 = 1 := by decide +kernel
theorem zt2 : zq_rt 2 = some (.array (.object "EveningFalls$Strip")) := by decide +kernel
theorem zm3 : zq_ml 3 = 2 := by decide +kernel
theorem zi3 : (zq_i 3).1 = 3 ∧ (zq_i 3).2.1 = 1 ∧ (zq_i 3).2.2.1 = 2 := by decide +kernel
theorem zt3 : zq_rt 3 = none := by decide +kernel
theorem zm4 : zq_ml 4 = 1 := by decide +kernel
theorem zi4 : (zq_i 4).1 = 0 ∧ (zq_i 4).2.1 = 0 ∧ (zq_i 4).2.2.1 = 2 := by decide +kernel
theorem zt4 : zq_rt 4 = none := by decide +kernel
theorem zm5 : zq_ml 5 = 1 := by decide +kernel
theorem zi5 : (zq_i 5).1 = 0 ∧ (zq_i 5).2.1 = 0 ∧ (zq_i 5).2.2.1 = 0 := by decide +kernel
theorem zt5 : zq_rt 5 = none := by decide +kernel
theorem zm6 : zq_ml 6 = 4 := by decide +kernel
theorem zi6 : (zq_i 6).1 = 10 ∧ (zq_i 6).2.1 = 2 ∧ (zq_i 6).2.2.1 = 1 := by decide +kernel
theorem zt6 : zq_rt 6 = none := by decide +kernel
theorem zm7 : zq_ml 7 = 1 := by decide +kernel
theorem zi7 : (zq_i 7).1 = 1 ∧ (zq_i 7).2.1 = 0 ∧ (zq_i 7).2.2.1 = 2 := by decide +kernel
theorem zt7 : zq_rt 7 = none := by decide +kernel
theorem zm8 : zq_ml 8 = 2 := by decide +kernel
theorem zi8 : (zq_i 8).1 = 2 ∧ (zq_i 8).2.1 = 1 ∧ (zq_i 8).2.2.1 = 2 := by decide +kernel
theorem zt8 : zq_rt 8 = none := by decide +kernel
theorem zm9 : zq_ml 9 = 3 := by decide +kernel
theorem zi9 : (zq_i 9).1 = 3 ∧ (zq_i 9).2.1 = 2 ∧ (zq_i 9).2.2.1 = 0 := by decide +kernel
theorem zt9 : zq_rt 9 = none := by decide +kernel
theorem zm10 : zq_ml 10 = 3 := by decide +kernel
theorem zi10 : (zq_i 10).1 = 4 ∧ (zq_i 10).2.1 = 2 ∧ (zq_i 10).2.2.1 = 0 := by decide +kernel
theorem zt10 : zq_rt 10 = some .int := by decide +kernel
theorem zm11 : zq_ml 11 = 2 := by decide +kernel
theorem zi11 : (zq_i 11).1 = 4 ∧ (zq_i 11).2.1 = 2 ∧ (zq_i 11).2.2.1 = 1 := by decide +kernel
theorem zt11 : zq_rt 11 = some (.object "EveningFalls$Strip") := by decide +kernel
theorem zm12 : zq_ml 12 = 4 := by decide +kernel
theorem zi12 : (zq_i 12).1 = 4 ∧ (zq_i 12).2.1 = 3 ∧ (zq_i 12).2.2.1 = 0 := by decide +kernel
theorem zt12 : zq_rt 12 = some .int := by decide +kernel
theorem zm13 : zq_ml 13 = 2 := by decide +kernel
theorem zi13 : (zq_i 13).1 = 4 ∧ (zq_i 13).2.1 = 1 ∧ (zq_i 13).2.2.1 = 0 := by decide +kernel
theorem zt13 : zq_rt 13 = some .int := by decide +kernel
theorem zm14 : zq_ml 14 = 5 := by decide +kernel
theorem zi14 : (zq_i 14).1 = 4 ∧ (zq_i 14).2.1 = 3 ∧ (zq_i 14).2.2.1 = 0 := by decide +kernel
theorem zt14 : zq_rt 14 = some .int := by decide +kernel
theorem zm15 : zq_ml 15 = 1 := by decide +kernel
theorem zi15 : (zq_i 15).1 = 3 ∧ (zq_i 15).2.1 = 0 ∧ (zq_i 15).2.2.1 = 0 := by decide +kernel
theorem zt15 : zq_rt 15 = some .boolean := by decide +kernel
theorem zm16 : zq_ml 16 = 2 := by decide +kernel
theorem zi16 : (zq_i 16).1 = 3 ∧ (zq_i 16).2.1 = 1 ∧ (zq_i 16).2.2.1 = 0 := by decide +kernel
theorem zt16 : zq_rt 16 = some .boolean := by decide +kernel
theorem zm17 : zq_ml 17 = 4 := by decide +kernel
theorem zi17 : (zq_i 17).1 = 4 ∧ (zq_i 17).2.1 = 2 ∧ (zq_i 17).2.2.1 = 0 := by decide +kernel
theorem zt17 : zq_rt 17 = some .int := by decide +kernel
theorem zm18 : zq_ml 18 = 3 := by decide +kernel
theorem zi18 : (zq_i 18).1 = 4 ∧ (zq_i 18).2.1 = 1 ∧ (zq_i 18).2.2.1 = 0 := by decide +kernel
theorem zt18 : zq_rt 18 = some .int := by decide +kernel
theorem zm19 : zq_ml 19 = 1 := by decide +kernel
theorem zi19 : (zq_i 19).1 = 3 ∧ (zq_i 19).2.1 = 0 ∧ (zq_i 19).2.2.1 = 0 := by decide +kernel
theorem zt19 : zq_rt 19 = none := by decide +kernel
theorem zm20 : zq_ml 20 = 8 := by decide +kernel
theorem zi20 : (zq_i 20).1 = 4 ∧ (zq_i 20).2.1 = 5 ∧ (zq_i 20).2.2.1 = 0 := by decide +kernel
theorem zt20 : zq_rt 20 = some .int := by decide +kernel
theorem zm21 : zq_ml 21 = 3 := by decide +kernel
theorem zi21 : (zq_i 21).1 = 3 ∧ (zq_i 21).2.1 = 2 ∧ (zq_i 21).2.2.1 = 0 := by decide +kernel
theorem zt21 : zq_rt 21 = some .boolean := by decide +kernel
theorem zm22 : zq_ml 22 = 6 := by decide +kernel
theorem zi22 : (zq_i 22).1 = 4 ∧ (zq_i 22).2.1 = 1 ∧ (zq_i 22).2.2.1 = 0 := by decide +kernel
theorem zt22 : zq_rt 22 = some .int := by decide +kernel
theorem zm23 : zq_ml 23 = 3 := by decide +kernel
theorem zi23 : (zq_i 23).1 = 4 ∧ (zq_i 23).2.1 = 2 ∧ (zq_i 23).2.2.1 = 0 := by decide +kernel
theorem zt23 : zq_rt 23 = some .int := by decide +kernel
theorem zm24 : zq_ml 24 = 6 := by decide +kernel
theorem zi24 : (zq_i 24).1 = 4 ∧ (zq_i 24).2.1 = 3 ∧ (zq_i 24).2.2.1 = 0 := by decide +kernel
theorem zt24 : zq_rt 24 = some .int := by decide +kernel
theorem zm25 : zq_ml 25 = 3 := by decide +kernel
theorem zi25 : (zq_i 25).1 = 4 ∧ (zq_i 25).2.1 = 1 ∧ (zq_i 25).2.2.1 = 0 := by decide +kernel
theorem zt25 : zq_rt 25 = some .int := by decide +kernel
theorem zm26 : zq_ml 26 = 7 := by decide +kernel
theorem zi26 : (zq_i 26).1 = 6 ∧ (zq_i 26).2.1 = 2 ∧ (zq_i 26).2.2.1 = 1 := by decide +kernel
theorem zt26 : zq_rt 26 = some .int := by decide +kernel
theorem zm27 : zq_ml 27 = 1 := by decide +kernel
theorem zi27 : (zq_i 27).1 = 1 ∧ (zq_i 27).2.1 = 0 ∧ (zq_i 27).2.2.1 = 0 := by decide +kernel
theorem zt27 : zq_rt 27 = none := by decide +kernel
theorem zm28 : zq_ml 28 = 3 := by decide +kernel
theorem zi28 : (zq_i 28).1 = 6 ∧ (zq_i 28).2.1 = 2 ∧ (zq_i 28).2.2.1 = 1 := by decide +kernel
theorem zt28 : zq_rt 28 = some .int := by decide +kernel
theorem zm29 : zq_ml 29 = 2 := by decide +kernel
theorem zi29 : (zq_i 29).1 = 3 ∧ (zq_i 29).2.1 = 1 ∧ (zq_i 29).2.2.1 = 0 := by decide +kernel
theorem zt29 : zq_rt 29 = some .int := by decide +kernel
theorem zm30 : zq_ml 30 = 4 := by decide +kernel
theorem zi30 : (zq_i 30).1 = 6 ∧ (zq_i 30).2.1 = 3 ∧ (zq_i 30).2.2.1 = 1 := by decide +kernel
theorem zt30 : zq_rt 30 = some .int := by decide +kernel
theorem zm31 : zq_ml 31 = 3 := by decide +kernel
theorem zi31 : (zq_i 31).1 = 1 ∧ (zq_i 31).2.1 = 2 ∧ (zq_i 31).2.2.1 = 0 := by decide +kernel
theorem zt31 : zq_rt 31 = none := by decide +kernel
theorem zm32 : zq_ml 32 = 8 := by decide +kernel
theorem zi32 : (zq_i 32).1 = 6 ∧ (zq_i 32).2.1 = 3 ∧ (zq_i 32).2.2.1 = 1 := by decide +kernel
theorem zt32 : zq_rt 32 = some .int := by decide +kernel
theorem zm33 : zq_ml 33 = 1 := by decide +kernel
theorem zi33 : (zq_i 33).1 = 6 ∧ (zq_i 33).2.1 = 1 ∧ (zq_i 33).2.2.1 = 1 := by decide +kernel
theorem zt33 : zq_rt 33 = some .int := by decide +kernel
theorem zm34 : zq_ml 34 = 1 := by decide +kernel
theorem zi34 : (zq_i 34).1 = 1 ∧ (zq_i 34).2.1 = 0 ∧ (zq_i 34).2.2.1 = 0 := by decide +kernel
theorem zt34 : zq_rt 34 = some .int := by decide +kernel
theorem zm35 : zq_ml 35 = 4 := by decide +kernel
theorem zi35 : (zq_i 35).1 = 1 ∧ (zq_i 35).2.1 = 3 ∧ (zq_i 35).2.2.1 = 0 := by decide +kernel
theorem zt35 : zq_rt 35 = none := by decide +kernel
theorem zm36 : zq_ml 36 = 2 := by decide +kernel
theorem zi36 : (zq_i 36).1 = 1 ∧ (zq_i 36).2.1 = 2 ∧ (zq_i 36).2.2.1 = 1 := by decide +kernel
theorem zt36 : zq_rt 36 = some .int := by decide +kernel
theorem zm37 : zq_ml 37 = 2 := by decide +kernel
theorem zi37 : (zq_i 37).1 = 1 ∧ (zq_i 37).2.1 = 2 ∧ (zq_i 37).2.2.1 = 1 := by decide +kernel
theorem zt37 : zq_rt 37 = some .boolean := by decide +kernel
theorem zm38 : zq_ml 38 = 2 := by decide +kernel
theorem zi38 : (zq_i 38).1 = 1 ∧ (zq_i 38).2.1 = 2 ∧ (zq_i 38).2.2.1 = 1 := by decide +kernel
theorem zt38 : zq_rt 38 = some .int := by decide +kernel
theorem zm39 : zq_ml 39 = 5 := by decide +kernel
theorem zi39 : (zq_i 39).1 = 4 ∧ (zq_i 39).2.1 = 1 ∧ (zq_i 39).2.2.1 = 0 := by decide +kernel
theorem zt39 : zq_rt 39 = some .int := by decide +kernel
theorem zm40 : zq_ml 40 = 3 := by decide +kernel
theorem zi40 : (zq_i 40).1 = 4 ∧ (zq_i 40).2.1 = 2 ∧ (zq_i 40).2.2.1 = 0 := by decide +kernel
theorem zt40 : zq_rt 40 = some .int := by decide +kernel
theorem zm41 : zq_ml 41 = 2 := by decide +kernel
theorem zi41 : (zq_i 41).1 = 1 ∧ (zq_i 41).2.1 = 1 ∧ (zq_i 41).2.2.1 = 0 := by decide +kernel
theorem zt41 : zq_rt 41 = some .boolean := by decide +kernel
theorem zm42 : zq_ml 42 = 3 := by decide +kernel
theorem zi42 : (zq_i 42).1 = 4 ∧ (zq_i 42).2.1 = 2 ∧ (zq_i 42).2.2.1 = 0 := by decide +kernel
theorem zt42 : zq_rt 42 = some .int := by decide +kernel
theorem zm43 : zq_ml 43 = 1 := by decide +kernel
theorem zi43 : (zq_i 43).1 = 4 ∧ (zq_i 43).2.1 = 0 ∧ (zq_i 43).2.2.1 = 0 := by decide +kernel
theorem zt43 : zq_rt 43 = some .int := by decide +kernel
theorem zm44 : zq_ml 44 = 4 := by decide +kernel
theorem zi44 : (zq_i 44).1 = 1 ∧ (zq_i 44).2.1 = 1 ∧ (zq_i 44).2.2.1 = 0 := by decide +kernel
theorem zt44 : zq_rt 44 = some .int := by decide +kernel
theorem zm45 : zq_ml 45 = 5 := by decide +kernel
theorem zi45 : (zq_i 45).1 = 0 ∧ (zq_i 45).2.1 = 2 ∧ (zq_i 45).2.2.1 = 0 := by decide +kernel
theorem zt45 : zq_rt 45 = some .int := by decide +kernel
theorem zm46 : zq_ml 46 = 3 := by decide +kernel
theorem zi46 : (zq_i 46).1 = 0 ∧ (zq_i 46).2.1 = 2 ∧ (zq_i 46).2.2.1 = 0 := by decide +kernel
theorem zt46 : zq_rt 46 = some .boolean := by decide +kernel
theorem zm47 : zq_ml 47 = 2 := by decide +kernel
theorem zi47 : (zq_i 47).1 = 1 ∧ (zq_i 47).2.1 = 2 ∧ (zq_i 47).2.2.1 = 1 := by decide +kernel
theorem zt47 : zq_rt 47 = some .boolean := by decide +kernel
theorem zm48 : zq_ml 48 = 3 := by decide +kernel
theorem zi48 : (zq_i 48).1 = 1 ∧ (zq_i 48).2.1 = 2 ∧ (zq_i 48).2.2.1 = 0 := by decide +kernel
theorem zt48 : zq_rt 48 = some .boolean := by decide +kernel
theorem zm49 : zq_ml 49 = 3 := by decide +kernel
theorem zi49 : (zq_i 49).1 = 4 ∧ (zq_i 49).2.1 = 2 ∧ (zq_i 49).2.2.1 = 0 := by decide +kernel
theorem zt49 : zq_rt 49 = some .int := by decide +kernel
theorem zm50 : zq_ml 50 = 4 := by decide +kernel
theorem zi50 : (zq_i 50).1 = 1 ∧ (zq_i 50).2.1 = 1 ∧ (zq_i 50).2.2.1 = 0 := by decide +kernel
theorem zt50 : zq_rt 50 = some .int := by decide +kernel
theorem zm51 : zq_ml 51 = 1 := by decide +kernel
theorem zi51 : (zq_i 51).1 = 8 ∧ (zq_i 51).2.1 = 1 ∧ (zq_i 51).2.2.1 = 1 := by decide +kernel
theorem zt51 : zq_rt 51 = some .int := by decide +kernel
theorem zm52 : zq_ml 52 = 2 := by decide +kernel
theorem zi52 : (zq_i 52).1 = 4 ∧ (zq_i 52).2.1 = 1 ∧ (zq_i 52).2.2.1 = 0 := by decide +kernel
theorem zt52 : zq_rt 52 = some .int := by decide +kernel
theorem zm53 : zq_ml 53 = 2 := by decide +kernel
theorem zi53 : (zq_i 53).1 = 4 ∧ (zq_i 53).2.1 = 1 ∧ (zq_i 53).2.2.1 = 0 := by decide +kernel
theorem zt53 : zq_rt 53 = some .int := by decide +kernel
theorem zm54 : zq_ml 54 = 2 := by decide +kernel
theorem zi54 : (zq_i 54).1 = 4 ∧ (zq_i 54).2.1 = 1 ∧ (zq_i 54).2.2.1 = 0 := by decide +kernel
theorem zt54 : zq_rt 54 = none := by decide +kernel
theorem zm55 : zq_ml 55 = 3 := by decide +kernel
theorem zi55 : (zq_i 55).1 = 0 ∧ (zq_i 55).2.1 = 2 ∧ (zq_i 55).2.2.1 = 0 := by decide +kernel
theorem zt55 : zq_rt 55 = none := by decide +kernel
theorem zm56 : zq_ml 56 = 1 := by decide +kernel
theorem zi56 : (zq_i 56).1 = 4 ∧ (zq_i 56).2.1 = 0 ∧ (zq_i 56).2.2.1 = 0 := by decide +kernel
theorem zt56 : zq_rt 56 = some .int := by decide +kernel
theorem zm57 : zq_ml 57 = 3 := by decide +kernel
theorem zi57 : (zq_i 57).1 = 4 ∧ (zq_i 57).2.1 = 1 ∧ (zq_i 57).2.2.1 = 0 := by decide +kernel
theorem zt57 : zq_rt 57 = some .int := by decide +kernel
theorem zm58 : zq_ml 58 = 2 := by decide +kernel
theorem zi58 : (zq_i 58).1 = 4 ∧ (zq_i 58).2.1 = 0 ∧ (zq_i 58).2.2.1 = 0 := by decide +kernel
theorem zt58 : zq_rt 58 = none := by decide +kernel
theorem zm59 : zq_ml 59 = 2 := by decide +kernel
theorem zi59 : (zq_i 59).1 = 4 ∧ (zq_i 59).2.1 = 1 ∧ (zq_i 59).2.2.1 = 0 := by decide +kernel
theorem zt59 : zq_rt 59 = some .int := by decide +kernel
theorem zm60 : zq_ml 60 = 3 := by decide +kernel
theorem zi60 : (zq_i 60).1 = 3 ∧ (zq_i 60).2.1 = 2 ∧ (zq_i 60).2.2.1 = 0 := by decide +kernel
theorem zt60 : zq_rt 60 = none := by decide +kernel
theorem zm61 : zq_ml 61 = 2 := by decide +kernel
theorem zi61 : (zq_i 61).1 = 4 ∧ (zq_i 61).2.1 = 1 ∧ (zq_i 61).2.2.1 = 0 := by decide +kernel
theorem zt61 : zq_rt 61 = some .int := by decide +kernel
theorem zm62 : zq_ml 62 = 1 := by decide +kernel
theorem zi62 : (zq_i 62).1 = 4 ∧ (zq_i 62).2.1 = 0 ∧ (zq_i 62).2.2.1 = 0 := by decide +kernel
theorem zt62 : zq_rt 62 = some .int := by decide +kernel
theorem zm63 : zq_ml 63 = 2 := by decide +kernel
theorem zi63 : (zq_i 63).1 = 4 ∧ (zq_i 63).2.1 = 1 ∧ (zq_i 63).2.2.1 = 0 := by decide +kernel
theorem zt63 : zq_rt 63 = some .int := by decide +kernel
theorem zm64 : zq_ml 64 = 5 := by decide +kernel
theorem zi64 : (zq_i 64).1 = 2 ∧ (zq_i 64).2.1 = 3 ∧ (zq_i 64).2.2.1 = 0 := by decide +kernel
theorem zt64 : zq_rt 64 = none := by decide +kernel
theorem zm65 : zq_ml 65 = 2 := by decide +kernel
theorem zi65 : (zq_i 65).1 = 0 ∧ (zq_i 65).2.1 = 1 ∧ (zq_i 65).2.2.1 = 0 := by decide +kernel
theorem zt65 : zq_rt 65 = none := by decide +kernel
theorem zm66 : zq_ml 66 = 8 := by decide +kernel
theorem zi66 : (zq_i 66).1 = 2 ∧ (zq_i 66).2.1 = 2 ∧ (zq_i 66).2.2.1 = 1 := by decide +kernel
theorem zt66 : zq_rt 66 = some .long := by decide +kernel
theorem zm67 : zq_ml 67 = 1 := by decide +kernel
theorem zi67 : (zq_i 67).1 = 2 ∧ (zq_i 67).2.1 = 0 ∧ (zq_i 67).2.2.1 = 0 := by decide +kernel
theorem zt67 : zq_rt 67 = some .int := by decide +kernel
theorem zm68 : zq_ml 68 = 5 := by decide +kernel
theorem zi68 : (zq_i 68).1 = 0 ∧ (zq_i 68).2.1 = 4 ∧ (zq_i 68).2.2.1 = 0 := by decide +kernel
theorem zt68 : zq_rt 68 = none := by decide +kernel
theorem zm69 : zq_ml 69 = 7 := by decide +kernel
theorem zi69 : (zq_i 69).1 = 4 ∧ (zq_i 69).2.1 = 2 ∧ (zq_i 69).2.2.1 = 0 := by decide +kernel
theorem zt69 : zq_rt 69 = none := by decide +kernel
theorem zm70 : zq_ml 70 = 11 := by decide +kernel
theorem zi70 : (zq_i 70).1 = 4 ∧ (zq_i 70).2.1 = 2 ∧ (zq_i 70).2.2.1 = 1 := by decide +kernel
theorem zt70 : zq_rt 70 = some .long := by decide +kernel
theorem zm71 : zq_ml 71 = 4 := by decide +kernel
theorem zi71 : (zq_i 71).1 = 4 ∧ (zq_i 71).2.1 = 2 ∧ (zq_i 71).2.2.1 = 0 := by decide +kernel
theorem zt71 : zq_rt 71 = some .int := by decide +kernel
theorem zm72 : zq_ml 72 = 7 := by decide +kernel
theorem zi72 : (zq_i 72).1 = 2 ∧ (zq_i 72).2.1 = 2 ∧ (zq_i 72).2.2.1 = 1 := by decide +kernel
theorem zt72 : zq_rt 72 = none := by decide +kernel
theorem zm73 : zq_ml 73 = 2 := by decide +kernel
theorem zi73 : (zq_i 73).1 = 2 ∧ (zq_i 73).2.1 = 1 ∧ (zq_i 73).2.2.1 = 0 := by decide +kernel
theorem zt73 : zq_rt 73 = none := by decide +kernel
theorem zm74 : zq_ml 74 = 4 := by decide +kernel
theorem zi74 : (zq_i 74).1 = 4 ∧ (zq_i 74).2.1 = 1 ∧ (zq_i 74).2.2.1 = 0 := by decide +kernel
theorem zt74 : zq_rt 74 = some .int := by decide +kernel
theorem zm75 : zq_ml 75 = 6 := by decide +kernel
theorem zi75 : (zq_i 75).1 = 2 ∧ (zq_i 75).2.1 = 2 ∧ (zq_i 75).2.2.1 = 1 := by decide +kernel
theorem zt75 : zq_rt 75 = none := by decide +kernel
theorem zm76 : zq_ml 76 = 4 := by decide +kernel
theorem zi76 : (zq_i 76).1 = 4 ∧ (zq_i 76).2.1 = 1 ∧ (zq_i 76).2.2.1 = 0 := by decide +kernel
theorem zt76 : zq_rt 76 = some .int := by decide +kernel
theorem zm77 : zq_ml 77 = 4 := by decide +kernel
theorem zi77 : (zq_i 77).1 = 4 ∧ (zq_i 77).2.1 = 1 ∧ (zq_i 77).2.2.1 = 0 := by decide +kernel
theorem zt77 : zq_rt 77 = some .int := by decide +kernel
theorem zm78 : zq_ml 78 = 6 := by decide +kernel
theorem zi78 : (zq_i 78).1 = 0 ∧ (zq_i 78).2.1 = 3 ∧ (zq_i 78).2.2.1 = 0 := by decide +kernel
theorem zt78 : zq_rt 78 = some .int := by decide +kernel
theorem zm79 : zq_ml 79 = 5 := by decide +kernel
theorem zi79 : (zq_i 79).1 = 0 ∧ (zq_i 79).2.1 = 4 ∧ (zq_i 79).2.2.1 = 0 := by decide +kernel
theorem zt79 : zq_rt 79 = some .boolean := by decide +kernel
theorem zm80 : zq_ml 80 = 2 := by decide +kernel
theorem zi80 : (zq_i 80).1 = 4 ∧ (zq_i 80).2.1 = 1 ∧ (zq_i 80).2.2.1 = 0 := by decide +kernel
theorem zt80 : zq_rt 80 = some .int := by decide +kernel
theorem zm81 : zq_ml 81 = 7 := by decide +kernel
theorem zi81 : (zq_i 81).1 = 2 ∧ (zq_i 81).2.1 = 3 ∧ (zq_i 81).2.2.1 = 1 := by decide +kernel
theorem zt81 : zq_rt 81 = none := by decide +kernel
theorem zm82 : zq_ml 82 = 1 := by decide +kernel
theorem zi82 : (zq_i 82).1 = 2 ∧ (zq_i 82).2.1 = 1 ∧ (zq_i 82).2.2.1 = 1 := by decide +kernel
theorem zt82 : zq_rt 82 = some .int := by decide +kernel
theorem zm83 : zq_ml 83 = 7 := by decide +kernel
theorem zi83 : (zq_i 83).1 = 4 ∧ (zq_i 83).2.1 = 1 ∧ (zq_i 83).2.2.1 = 0 := by decide +kernel
theorem zt83 : zq_rt 83 = some .int := by decide +kernel
theorem zm84 : zq_ml 84 = 4 := by decide +kernel
theorem zi84 : (zq_i 84).1 = 2 ∧ (zq_i 84).2.1 = 1 ∧ (zq_i 84).2.2.1 = 0 := by decide +kernel
theorem zt84 : zq_rt 84 = none := by decide +kernel
theorem zm85 : zq_ml 85 = 2 := by decide +kernel
theorem zi85 : (zq_i 85).1 = 2 ∧ (zq_i 85).2.1 = 0 ∧ (zq_i 85).2.2.1 = 0 := by decide +kernel
theorem zt85 : zq_rt 85 = some .boolean := by decide +kernel
theorem zm86 : zq_ml 86 = 4 := by decide +kernel
theorem zi86 : (zq_i 86).1 = 2 ∧ (zq_i 86).2.1 = 1 ∧ (zq_i 86).2.2.1 = 0 := by decide +kernel
theorem zt86 : zq_rt 86 = some .boolean := by decide +kernel
theorem zm87 : zq_ml 87 = 5 := by decide +kernel
theorem zi87 : (zq_i 87).1 = 4 ∧ (zq_i 87).2.1 = 2 ∧ (zq_i 87).2.2.1 = 0 := by decide +kernel
theorem zt87 : zq_rt 87 = some .int := by decide +kernel
theorem zm88 : zq_ml 88 = 7 := by decide +kernel
theorem zi88 : (zq_i 88).1 = 4 ∧ (zq_i 88).2.1 = 4 ∧ (zq_i 88).2.2.1 = 0 := by decide +kernel
theorem zt88 : zq_rt 88 = some .int := by decide +kernel
theorem zm89 : zq_ml 89 = 2 := by decide +kernel
theorem zi89 : (zq_i 89).1 = 4 ∧ (zq_i 89).2.1 = 1 ∧ (zq_i 89).2.2.1 = 0 := by decide +kernel
theorem zt89 : zq_rt 89 = some .int := by decide +kernel
theorem zm90 : zq_ml 90 = 5 := by decide +kernel
theorem zi90 : (zq_i 90).1 = 2 ∧ (zq_i 90).2.1 = 3 ∧ (zq_i 90).2.2.1 = 1 := by decide +kernel
theorem zt90 : zq_rt 90 = some .int := by decide +kernel
theorem zm91 : zq_ml 91 = 8 := by decide +kernel
theorem zi91 : (zq_i 91).1 = 2 ∧ (zq_i 91).2.1 = 3 ∧ (zq_i 91).2.2.1 = 1 := by decide +kernel
theorem zt91 : zq_rt 91 = some .int := by decide +kernel
theorem zm92 : zq_ml 92 = 2 := by decide +kernel
theorem zi92 : (zq_i 92).1 = 4 ∧ (zq_i 92).2.1 = 1 ∧ (zq_i 92).2.2.1 = 0 := by decide +kernel
theorem zt92 : zq_rt 92 = some .int := by decide +kernel
theorem zm93 : zq_ml 93 = 13 := by decide +kernel
theorem zi93 : (zq_i 93).1 = 4 ∧ (zq_i 93).2.1 = 2 ∧ (zq_i 93).2.2.1 = 0 := by decide +kernel
theorem zt93 : zq_rt 93 = none := by decide +kernel
theorem zm94 : zq_ml 94 = 7 := by decide +kernel
theorem zi94 : (zq_i 94).1 = 4 ∧ (zq_i 94).2.1 = 3 ∧ (zq_i 94).2.2.1 = 0 := by decide +kernel
theorem zt94 : zq_rt 94 = some .long := by decide +kernel
theorem zm95 : zq_ml 95 = 3 := by decide +kernel
theorem zi95 : (zq_i 95).1 = 4 ∧ (zq_i 95).2.1 = 1 ∧ (zq_i 95).2.2.1 = 0 := by decide +kernel
theorem zt95 : zq_rt 95 = some .int := by decide +kernel
theorem zm96 : zq_ml 96 = 2 := by decide +kernel
theorem zi96 : (zq_i 96).1 = 4 ∧ (zq_i 96).2.1 = 1 ∧ (zq_i 96).2.2.1 = 0 := by decide +kernel
theorem zt96 : zq_rt 96 = some .int := by decide +kernel
theorem zm97 : zq_ml 97 = 7 := by decide +kernel
theorem zi97 : (zq_i 97).1 = 4 ∧ (zq_i 97).2.1 = 2 ∧ (zq_i 97).2.2.1 = 0 := by decide +kernel
theorem zt97 : zq_rt 97 = some .int := by decide +kernel
theorem zm98 : zq_ml 98 = 5 := by decide +kernel
theorem zi98 : (zq_i 98).1 = 4 ∧ (zq_i 98).2.1 = 1 ∧ (zq_i 98).2.2.1 = 0 := by decide +kernel
theorem zt98 : zq_rt 98 = some .int := by decide +kernel
theorem zm99 : zq_ml 99 = 1 := by decide +kernel
theorem zi99 : (zq_i 99).1 = 4 ∧ (zq_i 99).2.1 = 0 ∧ (zq_i 99).2.2.1 = 0 := by decide +kernel
theorem zt99 : zq_rt 99 = some .int := by decide +kernel
theorem zm100 : zq_ml 100 = 1 := by decide +kernel
theorem zi100 : (zq_i 100).1 = 4 ∧ (zq_i 100).2.1 = 0 ∧ (zq_i 100).2.2.1 = 0 := by decide +kernel
theorem zt100 : zq_rt 100 = some .long := by decide +kernel
theorem zm101 : zq_ml 101 = 1 := by decide +kernel
theorem zi101 : (zq_i 101).1 = 4 ∧ (zq_i 101).2.1 = 0 ∧ (zq_i 101).2.2.1 = 0 := by decide +kernel
theorem zt101 : zq_rt 101 = some .long := by decide +kernel
theorem zm102 : zq_ml 102 = 2 := by decide +kernel
theorem zi102 : (zq_i 102).1 = 4 ∧ (zq_i 102).2.1 = 1 ∧ (zq_i 102).2.2.1 = 0 := by decide +kernel
theorem zt102 : zq_rt 102 = some .int := by decide +kernel
theorem zm103 : zq_ml 103 = 2 := by decide +kernel
theorem zi103 : (zq_i 103).1 = 4 ∧ (zq_i 103).2.1 = 1 ∧ (zq_i 103).2.2.1 = 0 := by decide +kernel
theorem zt103 : zq_rt 103 = some .int := by decide +kernel
theorem zm104 : zq_ml 104 = 3 := by decide +kernel
theorem zi104 : (zq_i 104).1 = 4 ∧ (zq_i 104).2.1 = 1 ∧ (zq_i 104).2.2.1 = 1 := by decide +kernel
theorem zt104 : zq_rt 104 = some .int := by decide +kernel
theorem zm105 : zq_ml 105 = 1 := by decide +kernel
theorem zi105 : (zq_i 105).1 = 4 ∧ (zq_i 105).2.1 = 0 ∧ (zq_i 105).2.2.1 = 0 := by decide +kernel
theorem zt105 : zq_rt 105 = some .int := by decide +kernel
theorem zm106 : zq_ml 106 = 2 := by decide +kernel
theorem zi106 : (zq_i 106).1 = 4 ∧ (zq_i 106).2.1 = 1 ∧ (zq_i 106).2.2.1 = 0 := by decide +kernel
theorem zt106 : zq_rt 106 = some .int := by decide +kernel
theorem zm107 : zq_ml 107 = 5 := by decide +kernel
theorem zi107 : (zq_i 107).1 = 4 ∧ (zq_i 107).2.1 = 0 ∧ (zq_i 107).2.2.1 = 0 := by decide +kernel
theorem zt107 : zq_rt 107 = some .long := by decide +kernel
theorem zm108 : zq_ml 108 = 6 := by decide +kernel
theorem zi108 : (zq_i 108).1 = 3 ∧ (zq_i 108).2.1 = 1 ∧ (zq_i 108).2.2.1 = 0 := by decide +kernel
theorem zt108 : zq_rt 108 = some .long := by decide +kernel
theorem zm109 : zq_ml 109 = 2 := by decide +kernel
theorem zi109 : (zq_i 109).1 = 5 ∧ (zq_i 109).2.1 = 0 ∧ (zq_i 109).2.2.1 = 2 := by decide +kernel
theorem zt109 : zq_rt 109 = none := by decide +kernel
theorem zm110 : zq_ml 110 = 4 := by decide +kernel
theorem zi110 : (zq_i 110).1 = 5 ∧ (zq_i 110).2.1 = 2 ∧ (zq_i 110).2.2.1 = 0 := by decide +kernel
theorem zt110 : zq_rt 110 = some .int := by decide +kernel
theorem zm111 : zq_ml 111 = 1 := by decide +kernel
theorem zi111 : (zq_i 111).1 = 5 ∧ (zq_i 111).2.1 = 1 ∧ (zq_i 111).2.2.1 = 1 := by decide +kernel
theorem zt111 : zq_rt 111 = some .boolean := by decide +kernel
theorem zm112 : zq_ml 112 = 3 := by decide +kernel
theorem zi112 : (zq_i 112).1 = 5 ∧ (zq_i 112).2.1 = 3 ∧ (zq_i 112).2.2.1 = 1 := by decide +kernel
theorem zt112 : zq_rt 112 = some .boolean := by decide +kernel
theorem zm113 : zq_ml 113 = 2 := by decide +kernel
theorem zi113 : (zq_i 113).1 = 5 ∧ (zq_i 113).2.1 = 1 ∧ (zq_i 113).2.2.1 = 0 := by decide +kernel
theorem zt113 : zq_rt 113 = some .int := by decide +kernel
theorem zm114 : zq_ml 114 = 4 := by decide +kernel
theorem zi114 : (zq_i 114).1 = 5 ∧ (zq_i 114).2.1 = 3 ∧ (zq_i 114).2.2.1 = 0 := by decide +kernel
theorem zt114 : zq_rt 114 = none := by decide +kernel
theorem zm115 : zq_ml 115 = 4 := by decide +kernel
theorem zi115 : (zq_i 115).1 = 5 ∧ (zq_i 115).2.1 = 2 ∧ (zq_i 115).2.2.1 = 0 := by decide +kernel
theorem zt115 : zq_rt 115 = some .int := by decide +kernel
theorem zm116 : zq_ml 116 = 2 := by decide +kernel
theorem zi116 : (zq_i 116).1 = 5 ∧ (zq_i 116).2.1 = 1 ∧ (zq_i 116).2.2.1 = 0 := by decide +kernel
theorem zt116 : zq_rt 116 = some .int := by decide +kernel
theorem zm117 : zq_ml 117 = 3 := by decide +kernel
theorem zi117 : (zq_i 117).1 = 5 ∧ (zq_i 117).2.1 = 2 ∧ (zq_i 117).2.2.1 = 0 := by decide +kernel
theorem zt117 : zq_rt 117 = some .int := by decide +kernel
theorem zm118 : zq_ml 118 = 3 := by decide +kernel
theorem zi118 : (zq_i 118).1 = 5 ∧ (zq_i 118).2.1 = 2 ∧ (zq_i 118).2.2.1 = 0 := by decide +kernel
theorem zt118 : zq_rt 118 = some .int := by decide +kernel
theorem zm119 : zq_ml 119 = 5 := by decide +kernel
theorem zi119 : (zq_i 119).1 = 5 ∧ (zq_i 119).2.1 = 3 ∧ (zq_i 119).2.2.1 = 0 := by decide +kernel
theorem zt119 : zq_rt 119 = some .int := by decide +kernel
theorem zm120 : zq_ml 120 = 3 := by decide +kernel
theorem zi120 : (zq_i 120).1 = 5 ∧ (zq_i 120).2.1 = 1 ∧ (zq_i 120).2.2.1 = 0 := by decide +kernel
theorem zt120 : zq_rt 120 = some .int := by decide +kernel
theorem zm121 : zq_ml 121 = 7 := by decide +kernel
theorem zi121 : (zq_i 121).1 = 5 ∧ (zq_i 121).2.1 = 5 ∧ (zq_i 121).2.2.1 = 0 := by decide +kernel
theorem zt121 : zq_rt 121 = some .int := by decide +kernel
theorem zm122 : zq_ml 122 = 6 := by decide +kernel
theorem zi122 : (zq_i 122).1 = 5 ∧ (zq_i 122).2.1 = 1 ∧ (zq_i 122).2.2.1 = 0 := by decide +kernel
theorem zt122 : zq_rt 122 = some .int := by decide +kernel
theorem zm123 : zq_ml 123 = 4 := by decide +kernel
theorem zi123 : (zq_i 123).1 = 5 ∧ (zq_i 123).2.1 = 2 ∧ (zq_i 123).2.2.1 = 0 := by decide +kernel
theorem zt123 : zq_rt 123 = some .int := by decide +kernel
theorem zm124 : zq_ml 124 = 1 := by decide +kernel
theorem zi124 : (zq_i 124).1 = 5 ∧ (zq_i 124).2.1 = 1 ∧ (zq_i 124).2.2.1 = 1 := by decide +kernel
theorem zt124 : zq_rt 124 = some .boolean := by decide +kernel
theorem zm125 : zq_ml 125 = 6 := by decide +kernel
theorem zi125 : (zq_i 125).1 = 5 ∧ (zq_i 125).2.1 = 3 ∧ (zq_i 125).2.2.1 = 0 := by decide +kernel
theorem zt125 : zq_rt 125 = some .int := by decide +kernel
theorem zm126 : zq_ml 126 = 2 := by decide +kernel
theorem zi126 : (zq_i 126).1 = 5 ∧ (zq_i 126).2.1 = 1 ∧ (zq_i 126).2.2.1 = 0 := by decide +kernel
theorem zt126 : zq_rt 126 = some .int := by decide +kernel
theorem zm127 : zq_ml 127 = 3 := by decide +kernel
theorem zi127 : (zq_i 127).1 = 5 ∧ (zq_i 127).2.1 = 1 ∧ (zq_i 127).2.2.1 = 0 := by decide +kernel
theorem zt127 : zq_rt 127 = some .int := by decide +kernel
theorem zm128 : zq_ml 128 = 2 := by decide +kernel
theorem zi128 : (zq_i 128).1 = 5 ∧ (zq_i 128).2.1 = 1 ∧ (zq_i 128).2.2.1 = 0 := by decide +kernel
theorem zt128 : zq_rt 128 = some .int := by decide +kernel
theorem zm129 : zq_ml 129 = 3 := by decide +kernel
theorem zi129 : (zq_i 129).1 = 5 ∧ (zq_i 129).2.1 = 1 ∧ (zq_i 129).2.2.1 = 0 := by decide +kernel
theorem zt129 : zq_rt 129 = some .boolean := by decide +kernel
theorem zm130 : zq_ml 130 = 2 := by decide +kernel
theorem zi130 : (zq_i 130).1 = 5 ∧ (zq_i 130).2.1 = 1 ∧ (zq_i 130).2.2.1 = 0 := by decide +kernel
theorem zt130 : zq_rt 130 = some .boolean := by decide +kernel
theorem zm131 : zq_ml 131 = 2 := by decide +kernel
theorem zi131 : (zq_i 131).1 = 5 ∧ (zq_i 131).2.1 = 1 ∧ (zq_i 131).2.2.1 = 0 := by decide +kernel
theorem zt131 : zq_rt 131 = none := by decide +kernel
theorem zm132 : zq_ml 132 = 2 := by decide +kernel
theorem zi132 : (zq_i 132).1 = 5 ∧ (zq_i 132).2.1 = 1 ∧ (zq_i 132).2.2.1 = 0 := by decide +kernel
theorem zt132 : zq_rt 132 = some .int := by decide +kernel
theorem zm133 : zq_ml 133 = 5 := by decide +kernel
theorem zi133 : (zq_i 133).1 = 5 ∧ (zq_i 133).2.1 = 3 ∧ (zq_i 133).2.2.1 = 0 := by decide +kernel
theorem zt133 : zq_rt 133 = some .boolean := by decide +kernel
theorem zm134 : zq_ml 134 = 2 := by decide +kernel
theorem zi134 : (zq_i 134).1 = 5 ∧ (zq_i 134).2.1 = 1 ∧ (zq_i 134).2.2.1 = 0 := by decide +kernel
theorem zt134 : zq_rt 134 = some .boolean := by decide +kernel
theorem zm135 : zq_ml 135 = 4 := by decide +kernel
theorem zi135 : (zq_i 135).1 = 5 ∧ (zq_i 135).2.1 = 1 ∧ (zq_i 135).2.2.1 = 0 := by decide +kernel
theorem zt135 : zq_rt 135 = some .boolean := by decide +kernel
theorem zm136 : zq_ml 136 = 1 := by decide +kernel
theorem zi136 : (zq_i 136).1 = 5 ∧ (zq_i 136).2.1 = 1 ∧ (zq_i 136).2.2.1 = 1 := by decide +kernel
theorem zt136 : zq_rt 136 = some .int := by decide +kernel
theorem zm137 : zq_ml 137 = 4 := by decide +kernel
theorem zi137 : (zq_i 137).1 = 5 ∧ (zq_i 137).2.1 = 1 ∧ (zq_i 137).2.2.1 = 0 := by decide +kernel
theorem zt137 : zq_rt 137 = some .int := by decide +kernel
theorem zm138 : zq_ml 138 = 2 := by decide +kernel
theorem zi138 : (zq_i 138).1 = 5 ∧ (zq_i 138).2.1 = 1 ∧ (zq_i 138).2.2.1 = 0 := by decide +kernel
theorem zt138 : zq_rt 138 = some .int := by decide +kernel
theorem zm139 : zq_ml 139 = 2 := by decide +kernel
theorem zi139 : (zq_i 139).1 = 5 ∧ (zq_i 139).2.1 = 1 ∧ (zq_i 139).2.2.1 = 0 := by decide +kernel
theorem zt139 : zq_rt 139 = some .boolean := by decide +kernel
theorem zm140 : zq_ml 140 = 2 := by decide +kernel
theorem zi140 : (zq_i 140).1 = 5 ∧ (zq_i 140).2.1 = 1 ∧ (zq_i 140).2.2.1 = 0 := by decide +kernel
theorem zt140 : zq_rt 140 = some .boolean := by decide +kernel
theorem zm141 : zq_ml 141 = 4 := by decide +kernel
theorem zi141 : (zq_i 141).1 = 5 ∧ (zq_i 141).2.1 = 1 ∧ (zq_i 141).2.2.1 = 0 := by decide +kernel
theorem zt141 : zq_rt 141 = some .int := by decide +kernel
theorem zm142 : zq_ml 142 = 3 := by decide +kernel
theorem zi142 : (zq_i 142).1 = 5 ∧ (zq_i 142).2.1 = 2 ∧ (zq_i 142).2.2.1 = 0 := by decide +kernel
theorem zt142 : zq_rt 142 = some .boolean := by decide +kernel
theorem zm143 : zq_ml 143 = 2 := by decide +kernel
theorem zi143 : (zq_i 143).1 = 5 ∧ (zq_i 143).2.1 = 1 ∧ (zq_i 143).2.2.1 = 0 := by decide +kernel
theorem zt143 : zq_rt 143 = some .int := by decide +kernel
theorem zm144 : zq_ml 144 = 1 := by decide +kernel
theorem zi144 : (zq_i 144).1 = 5 ∧ (zq_i 144).2.1 = 1 ∧ (zq_i 144).2.2.1 = 1 := by decide +kernel
theorem zt144 : zq_rt 144 = some .boolean := by decide +kernel
theorem zm145 : zq_ml 145 = 2 := by decide +kernel
theorem zi145 : (zq_i 145).1 = 5 ∧ (zq_i 145).2.1 = 1 ∧ (zq_i 145).2.2.1 = 0 := by decide +kernel
theorem zt145 : zq_rt 145 = some .int := by decide +kernel
theorem zm146 : zq_ml 146 = 2 := by decide +kernel
theorem zi146 : (zq_i 146).1 = 5 ∧ (zq_i 146).2.1 = 2 ∧ (zq_i 146).2.2.1 = 1 := by decide +kernel
theorem zt146 : zq_rt 146 = some .int := by decide +kernel
theorem zm147 : zq_ml 147 = 1 := by decide +kernel
theorem zi147 : (zq_i 147).1 = 5 ∧ (zq_i 147).2.1 = 1 ∧ (zq_i 147).2.2.1 = 1 := by decide +kernel
theorem zt147 : zq_rt 147 = some .boolean := by decide +kernel
theorem zm148 : zq_ml 148 = 4 := by decide +kernel
theorem zi148 : (zq_i 148).1 = 5 ∧ (zq_i 148).2.1 = 1 ∧ (zq_i 148).2.2.1 = 0 := by decide +kernel
theorem zt148 : zq_rt 148 = some .boolean := by decide +kernel
theorem zm149 : zq_ml 149 = 1 := by decide +kernel
theorem zi149 : (zq_i 149).1 = 5 ∧ (zq_i 149).2.1 = 0 ∧ (zq_i 149).2.2.1 = 0 := by decide +kernel
theorem zt149 : zq_rt 149 = none := by decide +kernel
theorem zm150 : zq_ml 150 = 4 := by decide +kernel
theorem zi150 : (zq_i 150).1 = 5 ∧ (zq_i 150).2.1 = 2 ∧ (zq_i 150).2.2.1 = 0 := by decide +kernel
theorem zt150 : zq_rt 150 = none := by decide +kernel
theorem zm151 : zq_ml 151 = 2 := by decide +kernel
theorem zi151 : (zq_i 151).1 = 5 ∧ (zq_i 151).2.1 = 1 ∧ (zq_i 151).2.2.1 = 0 := by decide +kernel
theorem zt151 : zq_rt 151 = none := by decide +kernel
theorem zm152 : zq_ml 152 = 2 := by decide +kernel
theorem zi152 : (zq_i 152).1 = 5 ∧ (zq_i 152).2.1 = 1 ∧ (zq_i 152).2.2.1 = 0 := by decide +kernel
theorem zt152 : zq_rt 152 = some .int := by decide +kernel
theorem zm153 : zq_ml 153 = 2 := by decide +kernel
theorem zi153 : (zq_i 153).1 = 5 ∧ (zq_i 153).2.1 = 2 ∧ (zq_i 153).2.2.1 = 1 := by decide +kernel
theorem zt153 : zq_rt 153 = some .int := by decide +kernel
theorem zm154 : zq_ml 154 = 1 := by decide +kernel
theorem zi154 : (zq_i 154).1 = 5 ∧ (zq_i 154).2.1 = 0 ∧ (zq_i 154).2.2.1 = 0 := by decide +kernel
theorem zt154 : zq_rt 154 = some .int := by decide +kernel
theorem zm155 : zq_ml 155 = 1 := by decide +kernel
theorem zi155 : (zq_i 155).1 = 5 ∧ (zq_i 155).2.1 = 0 ∧ (zq_i 155).2.2.1 = 0 := by decide +kernel
theorem zt155 : zq_rt 155 = none := by decide +kernel
theorem zm156 : zq_ml 156 = 3 := by decide +kernel
theorem zi156 : (zq_i 156).1 = 5 ∧ (zq_i 156).2.1 = 1 ∧ (zq_i 156).2.2.1 = 0 := by decide +kernel
theorem zt156 : zq_rt 156 = some .int := by decide +kernel
theorem zm157 : zq_ml 157 = 4 := by decide +kernel
theorem zi157 : (zq_i 157).1 = 5 ∧ (zq_i 157).2.1 = 2 ∧ (zq_i 157).2.2.1 = 0 := by decide +kernel
theorem zt157 : zq_rt 157 = none := by decide +kernel
theorem zm158 : zq_ml 158 = 4 := by decide +kernel
theorem zi158 : (zq_i 158).1 = 5 ∧ (zq_i 158).2.1 = 1 ∧ (zq_i 158).2.2.1 = 0 := by decide +kernel
theorem zt158 : zq_rt 158 = some .int := by decide +kernel
theorem zm159 : zq_ml 159 = 4 := by decide +kernel
theorem zi159 : (zq_i 159).1 = 5 ∧ (zq_i 159).2.1 = 1 ∧ (zq_i 159).2.2.1 = 0 := by decide +kernel
theorem zt159 : zq_rt 159 = some .int := by decide +kernel
theorem zm160 : zq_ml 160 = 3 := by decide +kernel
theorem zi160 : (zq_i 160).1 = 5 ∧ (zq_i 160).2.1 = 2 ∧ (zq_i 160).2.2.1 = 0 := by decide +kernel
theorem zt160 : zq_rt 160 = some .int := by decide +kernel
theorem zm161 : zq_ml 161 = 3 := by decide +kernel
theorem zi161 : (zq_i 161).1 = 5 ∧ (zq_i 161).2.1 = 2 ∧ (zq_i 161).2.2.1 = 0 := by decide +kernel
theorem zt161 : zq_rt 161 = some .int := by decide +kernel
theorem zm162 : zq_ml 162 = 3 := by decide +kernel
theorem zi162 : (zq_i 162).1 = 5 ∧ (zq_i 162).2.1 = 2 ∧ (zq_i 162).2.2.1 = 0 := by decide +kernel
theorem zt162 : zq_rt 162 = some .int := by decide +kernel
theorem zm163 : zq_ml 163 = 2 := by decide +kernel
theorem zi163 : (zq_i 163).1 = 5 ∧ (zq_i 163).2.1 = 2 ∧ (zq_i 163).2.2.1 = 1 := by decide +kernel
theorem zt163 : zq_rt 163 = some .boolean := by decide +kernel
theorem zm164 : zq_ml 164 = 4 := by decide +kernel
theorem zi164 : (zq_i 164).1 = 5 ∧ (zq_i 164).2.1 = 1 ∧ (zq_i 164).2.2.1 = 0 := by decide +kernel
theorem zt164 : zq_rt 164 = some .int := by decide +kernel
theorem zm165 : zq_ml 165 = 3 := by decide +kernel
theorem zi165 : (zq_i 165).1 = 5 ∧ (zq_i 165).2.1 = 1 ∧ (zq_i 165).2.2.1 = 1 := by decide +kernel
theorem zt165 : zq_rt 165 = some .int := by decide +kernel
theorem zm166 : zq_ml 166 = 2 := by decide +kernel
theorem zi166 : (zq_i 166).1 = 5 ∧ (zq_i 166).2.1 = 1 ∧ (zq_i 166).2.2.1 = 0 := by decide +kernel
theorem zt166 : zq_rt 166 = some .int := by decide +kernel
theorem zm167 : zq_ml 167 = 1 := by decide +kernel
theorem zi167 : (zq_i 167).1 = 5 ∧ (zq_i 167).2.1 = 0 ∧ (zq_i 167).2.2.1 = 0 := by decide +kernel
theorem zt167 : zq_rt 167 = some .int := by decide +kernel
theorem zm168 : zq_ml 168 = 3 := by decide +kernel
theorem zi168 : (zq_i 168).1 = 5 ∧ (zq_i 168).2.1 = 0 ∧ (zq_i 168).2.2.1 = 0 := by decide +kernel
theorem zt168 : zq_rt 168 = some .int := by decide +kernel
theorem zm169 : zq_ml 169 = 2 := by decide +kernel
theorem zi169 : (zq_i 169).1 = 5 ∧ (zq_i 169).2.1 = 1 ∧ (zq_i 169).2.2.1 = 0 := by decide +kernel
theorem zt169 : zq_rt 169 = some .int := by decide +kernel
theorem zm170 : zq_ml 170 = 0 := by decide +kernel
theorem zi170 : (zq_i 170).1 = 5 ∧ (zq_i 170).2.1 = 0 ∧ (zq_i 170).2.2.1 = 1 := by decide +kernel
theorem zt170 : zq_rt 170 = some .int := by decide +kernel
theorem zm171 : zq_ml 171 = 5 := by decide +kernel
theorem zi171 : (zq_i 171).1 = 5 ∧ (zq_i 171).2.1 = 2 ∧ (zq_i 171).2.2.1 = 0 := by decide +kernel
theorem zt171 : zq_rt 171 = none := by decide +kernel
theorem zm172 : zq_ml 172 = 3 := by decide +kernel
theorem zi172 : (zq_i 172).1 = 5 ∧ (zq_i 172).2.1 = 2 ∧ (zq_i 172).2.2.1 = 1 := by decide +kernel
theorem zt172 : zq_rt 172 = none := by decide +kernel
theorem zm173 : zq_ml 173 = 4 := by decide +kernel
theorem zi173 : (zq_i 173).1 = 5 ∧ (zq_i 173).2.1 = 2 ∧ (zq_i 173).2.2.1 = 0 := by decide +kernel
theorem zt173 : zq_rt 173 = some .int := by decide +kernel
theorem zm174 : zq_ml 174 = 3 := by decide +kernel
theorem zi174 : (zq_i 174).1 = 5 ∧ (zq_i 174).2.1 = 1 ∧ (zq_i 174).2.2.1 = 0 := by decide +kernel
theorem zt174 : zq_rt 174 = none := by decide +kernel
theorem zm175 : zq_ml 175 = 11 := by decide +kernel
theorem zi175 : (zq_i 175).1 = 5 ∧ (zq_i 175).2.1 = 2 ∧ (zq_i 175).2.2.1 = 0 := by decide +kernel
theorem zt175 : zq_rt 175 = some .int := by decide +kernel
theorem zm176 : zq_ml 176 = 3 := by decide +kernel
theorem zi176 : (zq_i 176).1 = 5 ∧ (zq_i 176).2.1 = 2 ∧ (zq_i 176).2.2.1 = 0 := by decide +kernel
theorem zt176 : zq_rt 176 = some .int := by decide +kernel
theorem zm177 : zq_ml 177 = 5 := by decide +kernel
theorem zi177 : (zq_i 177).1 = 5 ∧ (zq_i 177).2.1 = 3 ∧ (zq_i 177).2.2.1 = 0 := by decide +kernel
theorem zt177 : zq_rt 177 = none := by decide +kernel
theorem zm178 : zq_ml 178 = 2 := by decide +kernel
theorem zi178 : (zq_i 178).1 = 5 ∧ (zq_i 178).2.1 = 1 ∧ (zq_i 178).2.2.1 = 0 := by decide +kernel
theorem zt178 : zq_rt 178 = some .int := by decide +kernel
theorem zm179 : zq_ml 179 = 3 := by decide +kernel
theorem zi179 : (zq_i 179).1 = 5 ∧ (zq_i 179).2.1 = 1 ∧ (zq_i 179).2.2.1 = 0 := by decide +kernel
theorem zt179 : zq_rt 179 = some .int := by decide +kernel
theorem zm180 : zq_ml 180 = 1 := by decide +kernel
theorem zi180 : (zq_i 180).1 = 5 ∧ (zq_i 180).2.1 = 0 ∧ (zq_i 180).2.2.1 = 0 := by decide +kernel
theorem zt180 : zq_rt 180 = none := by decide +kernel
theorem zm181 : zq_ml 181 = 1 := by decide +kernel
theorem zi181 : (zq_i 181).1 = 5 ∧ (zq_i 181).2.1 = 0 ∧ (zq_i 181).2.2.1 = 0 := by decide +kernel
theorem zt181 : zq_rt 181 = none := by decide +kernel
theorem zm182 : zq_ml 182 = 5 := by decide +kernel
theorem zi182 : (zq_i 182).1 = 5 ∧ (zq_i 182).2.1 = 1 ∧ (zq_i 182).2.2.1 = 0 := by decide +kernel
theorem zt182 : zq_rt 182 = some .int := by decide +kernel
theorem zm183 : zq_ml 183 = 5 := by decide +kernel
theorem zi183 : (zq_i 183).1 = 5 ∧ (zq_i 183).2.1 = 1 ∧ (zq_i 183).2.2.1 = 0 := by decide +kernel
theorem zt183 : zq_rt 183 = some .int := by decide +kernel
theorem zm184 : zq_ml 184 = 5 := by decide +kernel
theorem zi184 : (zq_i 184).1 = 5 ∧ (zq_i 184).2.1 = 1 ∧ (zq_i 184).2.2.1 = 0 := by decide +kernel
theorem zt184 : zq_rt 184 = some .int := by decide +kernel
theorem zm185 : zq_ml 185 = 8 := by decide +kernel
theorem zi185 : (zq_i 185).1 = 5 ∧ (zq_i 185).2.1 = 1 ∧ (zq_i 185).2.2.1 = 0 := by decide +kernel
theorem zt185 : zq_rt 185 = some .int := by decide +kernel
theorem zm186 : zq_ml 186 = 6 := by decide +kernel
theorem zi186 : (zq_i 186).1 = 5 ∧ (zq_i 186).2.1 = 1 ∧ (zq_i 186).2.2.1 = 0 := by decide +kernel
theorem zt186 : zq_rt 186 = some .boolean := by decide +kernel
theorem zm187 : zq_ml 187 = 6 := by decide +kernel
theorem zi187 : (zq_i 187).1 = 5 ∧ (zq_i 187).2.1 = 2 ∧ (zq_i 187).2.2.1 = 0 := by decide +kernel
theorem zt187 : zq_rt 187 = some .int := by decide +kernel
theorem zm188 : zq_ml 188 = 8 := by decide +kernel
theorem zi188 : (zq_i 188).1 = 5 ∧ (zq_i 188).2.1 = 4 ∧ (zq_i 188).2.2.1 = 0 := by decide +kernel
theorem zt188 : zq_rt 188 = some .int := by decide +kernel
theorem zm189 : zq_ml 189 = 8 := by decide +kernel
theorem zi189 : (zq_i 189).1 = 5 ∧ (zq_i 189).2.1 = 1 ∧ (zq_i 189).2.2.1 = 0 := by decide +kernel
theorem zt189 : zq_rt 189 = some .int := by decide +kernel
theorem zm190 : zq_ml 190 = 5 := by decide +kernel
theorem zi190 : (zq_i 190).1 = 5 ∧ (zq_i 190).2.1 = 3 ∧ (zq_i 190).2.2.1 = 0 := by decide +kernel
theorem zt190 : zq_rt 190 = some .int := by decide +kernel
theorem zm191 : zq_ml 191 = 2 := by decide +kernel
theorem zi191 : (zq_i 191).1 = 5 ∧ (zq_i 191).2.1 = 2 ∧ (zq_i 191).2.2.1 = 1 := by decide +kernel
theorem zt191 : zq_rt 191 = some .boolean := by decide +kernel
theorem zm192 : zq_ml 192 = 2 := by decide +kernel
theorem zi192 : (zq_i 192).1 = 5 ∧ (zq_i 192).2.1 = 2 ∧ (zq_i 192).2.2.1 = 1 := by decide +kernel
theorem zt192 : zq_rt 192 = some .int := by decide +kernel
theorem zm193 : zq_ml 193 = 2 := by decide +kernel
theorem zi193 : (zq_i 193).1 = 5 ∧ (zq_i 193).2.1 = 1 ∧ (zq_i 193).2.2.1 = 0 := by decide +kernel
theorem zt193 : zq_rt 193 = some .int := by decide +kernel
theorem zm194 : zq_ml 194 = 14 := by decide +kernel
theorem zi194 : (zq_i 194).1 = 5 ∧ (zq_i 194).2.1 = 2 ∧ (zq_i 194).2.2.1 = 0 := by decide +kernel
theorem zt194 : zq_rt 194 = some .int := by decide +kernel
theorem zm195 : zq_ml 195 = 2 := by decide +kernel
theorem zi195 : (zq_i 195).1 = 5 ∧ (zq_i 195).2.1 = 1 ∧ (zq_i 195).2.2.1 = 0 := by decide +kernel
theorem zt195 : zq_rt 195 = some .int := by decide +kernel
theorem zm196 : zq_ml 196 = 9 := by decide +kernel
theorem zi196 : (zq_i 196).1 = 5 ∧ (zq_i 196).2.1 = 2 ∧ (zq_i 196).2.2.1 = 0 := by decide +kernel
theorem zt196 : zq_rt 196 = some .int := by decide +kernel
theorem zm197 : zq_ml 197 = 1 := by decide +kernel
theorem zi197 : (zq_i 197).1 = 5 ∧ (zq_i 197).2.1 = 0 ∧ (zq_i 197).2.2.1 = 0 := by decide +kernel
theorem zt197 : zq_rt 197 = some .int := by decide +kernel
theorem zm198 : zq_ml 198 = 1 := by decide +kernel
theorem zi198 : (zq_i 198).1 = 5 ∧ (zq_i 198).2.1 = 0 ∧ (zq_i 198).2.2.1 = 0 := by decide +kernel
theorem zt198 : zq_rt 198 = some .long := by decide +kernel
theorem zm199 : zq_ml 199 = 1 := by decide +kernel
theorem zi199 : (zq_i 199).1 = 5 ∧ (zq_i 199).2.1 = 0 ∧ (zq_i 199).2.2.1 = 0 := by decide +kernel
theorem zt199 : zq_rt 199 = some .long := by decide +kernel
theorem zm200 : zq_ml 200 = 2 := by decide +kernel
theorem zi200 : (zq_i 200).1 = 5 ∧ (zq_i 200).2.1 = 1 ∧ (zq_i 200).2.2.1 = 0 := by decide +kernel
theorem zt200 : zq_rt 200 = some .int := by decide +kernel
theorem zm201 : zq_ml 201 = 2 := by decide +kernel
theorem zi201 : (zq_i 201).1 = 5 ∧ (zq_i 201).2.1 = 1 ∧ (zq_i 201).2.2.1 = 0 := by decide +kernel
theorem zt201 : zq_rt 201 = some .int := by decide +kernel
theorem zm202 : zq_ml 202 = 4 := by decide +kernel
theorem zi202 : (zq_i 202).1 = 5 ∧ (zq_i 202).2.1 = 1 ∧ (zq_i 202).2.2.1 = 0 := by decide +kernel
theorem zt202 : zq_rt 202 = some .int := by decide +kernel
theorem zm203 : zq_ml 203 = 1 := by decide +kernel
theorem zi203 : (zq_i 203).1 = 5 ∧ (zq_i 203).2.1 = 0 ∧ (zq_i 203).2.2.1 = 0 := by decide +kernel
theorem zt203 : zq_rt 203 = some .int := by decide +kernel
theorem zm204 : zq_ml 204 = 2 := by decide +kernel
theorem zi204 : (zq_i 204).1 = 5 ∧ (zq_i 204).2.1 = 1 ∧ (zq_i 204).2.2.1 = 0 := by decide +kernel
theorem zt204 : zq_rt 204 = some .int := by decide +kernel
theorem zm205 : zq_ml 205 = 3 := by decide +kernel
theorem zi205 : (zq_i 205).1 = 5 ∧ (zq_i 205).2.1 = 0 ∧ (zq_i 205).2.2.1 = 0 := by decide +kernel
theorem zt205 : zq_rt 205 = some .long := by decide +kernel
theorem zm206 : zq_ml 206 = 2 := by decide +kernel
theorem zi206 : (zq_i 206).1 = 5 ∧ (zq_i 206).2.1 = 1 ∧ (zq_i 206).2.2.1 = 0 := by decide +kernel
theorem zt206 : zq_rt 206 = none := by decide +kernel
theorem zm207 : zq_ml 207 = 3 := by decide +kernel
theorem zi207 : (zq_i 207).1 = 5 ∧ (zq_i 207).2.1 = 0 ∧ (zq_i 207).2.2.1 = 0 := by decide +kernel
theorem zt207 : zq_rt 207 = none := by decide +kernel
