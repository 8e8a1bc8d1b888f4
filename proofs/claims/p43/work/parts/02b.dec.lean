def lX0_init_8 : List Nat := 177 :: []
def lX0_init_7 : List Nat := 89 :: 3 :: 2 :: 79 :: 89 :: 4 :: 2 :: 79 :: 89 :: 5 :: 2 :: 79 :: 181 :: 0 :: 67 :: 42 :: 7 :: 188 :: 10 :: 181 :: 0 :: 70 :: lX0_init_8
def lX0_init_6 : List Nat := 181 :: 0 :: 49 :: 42 :: 16 :: 8 :: 188 :: 10 :: 181 :: 0 :: 52 :: 42 :: 16 :: 8 :: 188 :: 10 :: 181 :: 0 :: 55 :: 42 :: 16 :: 14 :: 189 :: 0 :: 58 :: 181 :: 0 :: 60 :: 42 :: 3 :: 181 :: 0 :: 64 :: 42 :: 6 :: 188 :: 10 :: lX0_init_7
def lX0_init_5 : List Nat := 3 :: 181 :: 0 :: 34 :: 42 :: 4 :: 181 :: 0 :: 37 :: 42 :: 3 :: 181 :: 0 :: 40 :: 42 :: 16 :: 8 :: 188 :: 10 :: 181 :: 0 :: 43 :: 42 :: 16 :: 8 :: 188 :: 10 :: 181 :: 0 :: 46 :: 42 :: 16 :: 8 :: 188 :: 10 :: lX0_init_6
def lX0_init_4 : List Nat := 16 :: 20 :: 79 :: 181 :: 0 :: 18 :: 42 :: 3 :: 181 :: 0 :: 21 :: 42 :: 16 :: 60 :: 181 :: 0 :: 25 :: 42 :: 16 :: 10 :: 181 :: 0 :: 28 :: 42 :: 3 :: 181 :: 0 :: 31 :: 42 :: lX0_init_5
def lX0_init_3 : List Nat := 16 :: 6 :: 4 :: 79 :: 89 :: 16 :: 7 :: 4 :: 79 :: 181 :: 0 :: 15 :: 42 :: 5 :: 188 :: 10 :: 89 :: 3 :: 16 :: 20 :: 79 :: 89 :: 4 :: lX0_init_4
def lX0_init_2 : List Nat := 5 :: 4 :: 79 :: 89 :: 6 :: 4 :: 79 :: 89 :: 7 :: 4 :: 79 :: 89 :: 8 :: 4 :: 79 :: 89 :: lX0_init_3
def lX0_init_1 : List Nat := 89 :: 6 :: 8 :: 79 :: 181 :: 0 :: 9 :: 42 :: 16 :: 8 :: 188 :: 10 :: 89 :: 3 :: 4 :: 79 :: 89 :: 4 :: 4 :: 79 :: 89 :: lX0_init_2
def lX0_init_0 : List Nat := 42 :: 183 :: 0 :: 3 :: 42 :: 7 :: 188 :: 10 :: 89 :: 3 :: 8 :: 79 :: 89 :: 4 :: 8 :: 79 :: 89 :: 5 :: 8 :: 79 :: lX0_init_1
theorem bX0_init_0 : (dz_l cX0_init).drop 0 = lX0_init_0 := by decide +kernel
theorem bX0_init_1 : (dz_l cX0_init).drop 20 = lX0_init_1 := dz_dr (n := 20) bX0_init_0 rfl rfl
theorem bX0_init_2 : (dz_l cX0_init).drop 41 = lX0_init_2 := dz_dr (n := 21) bX0_init_1 rfl rfl
theorem bX0_init_3 : (dz_l cX0_init).drop 57 = lX0_init_3 := dz_dr (n := 16) bX0_init_2 rfl rfl
theorem bX0_init_4 : (dz_l cX0_init).drop 80 = lX0_init_4 := dz_dr (n := 23) bX0_init_3 rfl rfl
theorem bX0_init_5 : (dz_l cX0_init).drop 109 = lX0_init_5 := dz_dr (n := 29) bX0_init_4 rfl rfl
theorem bX0_init_6 : (dz_l cX0_init).drop 144 = lX0_init_6 := dz_dr (n := 35) bX0_init_5 rfl rfl
theorem bX0_init_7 : (dz_l cX0_init).drop 181 = lX0_init_7 := dz_dr (n := 37) bX0_init_6 rfl rfl
theorem bX0_init_8 : (dz_l cX0_init).drop 203 = lX0_init_8 := dz_dr (n := 22) bX0_init_7 rfl rfl
def lX0_becomes_7 : List Nat := 180 :: 0 :: 67 :: 3 :: 42 :: 180 :: 0 :: 67 :: 3 :: 6 :: 184 :: 0 :: 73 :: 177 :: []
def lX0_becomes_6 : List Nat := 162 :: 0 :: 21 :: 42 :: 180 :: 0 :: 60 :: 28 :: 43 :: 180 :: 0 :: 60 :: 28 :: 50 :: 83 :: 132 :: 2 :: 1 :: 167 :: 255 :: 235 :: 42 :: 43 :: 180 :: 0 :: 64 :: 181 :: 0 :: 64 :: 43 :: lX0_becomes_7
def lX0_becomes_5 : List Nat := 180 :: 0 :: 52 :: 3 :: 16 :: 8 :: 184 :: 0 :: 73 :: 43 :: 180 :: 0 :: 55 :: 3 :: 42 :: 180 :: 0 :: 55 :: 3 :: 16 :: 8 :: 184 :: 0 :: 73 :: 3 :: 61 :: 28 :: 16 :: 14 :: lX0_becomes_6
def lX0_becomes_4 : List Nat := 180 :: 0 :: 46 :: 3 :: 16 :: 8 :: 184 :: 0 :: 73 :: 43 :: 180 :: 0 :: 49 :: 3 :: 42 :: 180 :: 0 :: 49 :: 3 :: 16 :: 8 :: 184 :: 0 :: 73 :: 43 :: 180 :: 0 :: 52 :: 3 :: 42 :: lX0_becomes_5
def lX0_becomes_3 : List Nat := 42 :: 43 :: 180 :: 0 :: 40 :: 181 :: 0 :: 40 :: 43 :: 180 :: 0 :: 43 :: 3 :: 42 :: 180 :: 0 :: 43 :: 3 :: 16 :: 8 :: 184 :: 0 :: 73 :: 43 :: 180 :: 0 :: 46 :: 3 :: 42 :: lX0_becomes_4
def lX0_becomes_2 : List Nat := 42 :: 43 :: 180 :: 0 :: 28 :: 181 :: 0 :: 28 :: 42 :: 43 :: 180 :: 0 :: 31 :: 181 :: 0 :: 31 :: 42 :: 43 :: 180 :: 0 :: 34 :: 181 :: 0 :: 34 :: 42 :: 43 :: 180 :: 0 :: 37 :: 181 :: 0 :: 37 :: lX0_becomes_3
def lX0_becomes_1 : List Nat := 43 :: 180 :: 0 :: 18 :: 3 :: 42 :: 180 :: 0 :: 18 :: 3 :: 5 :: 184 :: 0 :: 73 :: 42 :: 43 :: 180 :: 0 :: 21 :: 181 :: 0 :: 21 :: 42 :: 43 :: 180 :: 0 :: 25 :: 181 :: 0 :: 25 :: lX0_becomes_2
def lX0_becomes_0 : List Nat := 43 :: 180 :: 0 :: 9 :: 3 :: 42 :: 180 :: 0 :: 9 :: 3 :: 7 :: 184 :: 0 :: 73 :: 43 :: 180 :: 0 :: 15 :: 3 :: 42 :: 180 :: 0 :: 15 :: 3 :: 16 :: 8 :: 184 :: 0 :: 73 :: lX0_becomes_1
theorem bX0_becomes_0 : (dz_l cX0_becomes).drop 0 = lX0_becomes_0 := by decide +kernel
theorem bX0_becomes_1 : (dz_l cX0_becomes).drop 29 = lX0_becomes_1 := dz_dr (n := 29) bX0_becomes_0 rfl rfl
theorem bX0_becomes_2 : (dz_l cX0_becomes).drop 59 = lX0_becomes_2 := dz_dr (n := 30) bX0_becomes_1 rfl rfl
theorem bX0_becomes_3 : (dz_l cX0_becomes).drop 91 = lX0_becomes_3 := dz_dr (n := 32) bX0_becomes_2 rfl rfl
theorem bX0_becomes_4 : (dz_l cX0_becomes).drop 120 = lX0_becomes_4 := dz_dr (n := 29) bX0_becomes_3 rfl rfl
theorem bX0_becomes_5 : (dz_l cX0_becomes).drop 150 = lX0_becomes_5 := dz_dr (n := 30) bX0_becomes_4 rfl rfl
theorem bX0_becomes_6 : (dz_l cX0_becomes).drop 179 = lX0_becomes_6 := dz_dr (n := 29) bX0_becomes_5 rfl rfl
theorem bX0_becomes_7 : (dz_l cX0_becomes).drop 209 = lX0_becomes_7 := dz_dr (n := 30) bX0_becomes_6 rfl rfl
def lX0_isFriend_0 : List Nat := 27 :: 3 :: 42 :: 180 :: 0 :: 40 :: 4 :: 100 :: 184 :: 0 :: 79 :: 172 :: []
theorem bX0_isFriend_0 : (dz_l cX0_isFriend).drop 0 = lX0_isFriend_0 := by decide +kernel
def lX0_addFriend_2 : List Nat := 3 :: 79 :: 42 :: 89 :: 180 :: 0 :: 40 :: 4 :: 96 :: 181 :: 0 :: 40 :: 177 :: []
def lX0_addFriend_1 : List Nat := 42 :: 180 :: 0 :: 49 :: 42 :: 180 :: 0 :: 40 :: 29 :: 79 :: 42 :: 180 :: 0 :: 52 :: 42 :: 180 :: 0 :: 40 :: 3 :: 79 :: 42 :: 180 :: 0 :: 55 :: 42 :: 180 :: 0 :: 40 :: lX0_addFriend_2
def lX0_addFriend_0 : List Nat := 42 :: 180 :: 0 :: 40 :: 16 :: 8 :: 161 :: 0 :: 4 :: 177 :: 42 :: 180 :: 0 :: 43 :: 42 :: 180 :: 0 :: 40 :: 27 :: 79 :: 42 :: 180 :: 0 :: 46 :: 42 :: 180 :: 0 :: 40 :: 28 :: 79 :: lX0_addFriend_1
theorem bX0_addFriend_0 : (dz_l cX0_addFriend).drop 0 = lX0_addFriend_0 := by decide +kernel
theorem bX0_addFriend_1 : (dz_l cX0_addFriend).drop 30 = lX0_addFriend_1 := dz_dr (n := 30) bX0_addFriend_0 rfl rfl
theorem bX0_addFriend_2 : (dz_l cX0_addFriend).drop 58 = lX0_addFriend_2 := dz_dr (n := 28) bX0_addFriend_1 rfl rfl
def lX0_addText_1 : List Nat := 43 :: 83 :: 42 :: 180 :: 0 :: 67 :: 43 :: 180 :: 0 :: 83 :: 42 :: 180 :: 0 :: 64 :: 79 :: 42 :: 89 :: 180 :: 0 :: 64 :: 4 :: 96 :: 181 :: 0 :: 64 :: 177 :: []
def lX0_addText_0 : List Nat := 43 :: 198 :: 0 :: 24 :: 42 :: 180 :: 0 :: 64 :: 16 :: 14 :: 162 :: 0 :: 15 :: 43 :: 180 :: 0 :: 83 :: 3 :: 5 :: 184 :: 0 :: 79 :: 154 :: 0 :: 4 :: 177 :: 42 :: 180 :: 0 :: 60 :: 42 :: 180 :: 0 :: 64 :: lX0_addText_1
theorem bX0_addText_0 : (dz_l cX0_addText).drop 0 = lX0_addText_0 := by decide +kernel
theorem bX0_addText_1 : (dz_l cX0_addText).drop 34 = lX0_addText_1 := dz_dr (n := 34) bX0_addText_0 rfl rfl
def lX0_textFor_1 : List Nat := 50 :: 167 :: 0 :: 4 :: 1 :: 176 :: []
def lX0_textFor_0 : List Nat := 42 :: 180 :: 0 :: 67 :: 27 :: 46 :: 61 :: 28 :: 3 :: 42 :: 180 :: 0 :: 64 :: 4 :: 100 :: 184 :: 0 :: 79 :: 153 :: 0 :: 12 :: 42 :: 180 :: 0 :: 60 :: 28 :: lX0_textFor_1
theorem bX0_textFor_0 : (dz_l cX0_textFor).drop 0 = lX0_textFor_0 := by decide +kernel
theorem bX0_textFor_1 : (dz_l cX0_textFor).drop 26 = lX0_textFor_1 := dz_dr (n := 26) bX0_textFor_0 rfl rfl
def lX0_draw_0 : List Nat := 42 :: 42 :: 180 :: 0 :: 37 :: 18 :: 86 :: 104 :: 17 :: 48 :: 57 :: 96 :: 181 :: 0 :: 37 :: 42 :: 180 :: 0 :: 37 :: 16 :: 8 :: 124 :: 172 :: []
theorem bX0_draw_0 : (dz_l cX0_draw).drop 0 = lX0_draw_0 := by decide +kernel
def lX0_hasOf_2 : List Nat := 132 :: 3 :: 1 :: 167 :: 255 :: 208 :: 28 :: 172 :: []
def lX0_hasOf_1 : List Nat := 180 :: 0 :: 9 :: 29 :: 46 :: 100 :: 54 :: 4 :: 28 :: 42 :: 180 :: 0 :: 15 :: 27 :: 29 :: 184 :: 0 :: 87 :: 46 :: 21 :: 4 :: 104 :: 96 :: 61 :: lX0_hasOf_2
def lX0_hasOf_0 : List Nat := 3 :: 61 :: 3 :: 62 :: 29 :: 7 :: 162 :: 0 :: 49 :: 27 :: 154 :: 0 :: 12 :: 42 :: 180 :: 0 :: 9 :: 29 :: 46 :: 167 :: 0 :: 12 :: 16 :: 9 :: 42 :: lX0_hasOf_1
theorem bX0_hasOf_0 : (dz_l cX0_hasOf).drop 0 = lX0_hasOf_0 := by decide +kernel
theorem bX0_hasOf_1 : (dz_l cX0_hasOf).drop 25 = lX0_hasOf_1 := dz_dr (n := 25) bX0_hasOf_0 rfl rfl
theorem bX0_hasOf_2 : (dz_l cX0_hasOf).drop 49 = lX0_hasOf_2 := dz_dr (n := 24) bX0_hasOf_1 rfl rfl
def lX0_isPeace_1 : List Nat := 4 :: 167 :: 0 :: 4 :: 3 :: 172 :: []
def lX0_isPeace_0 : List Nat := 42 :: 3 :: 182 :: 0 :: 91 :: 42 :: 180 :: 0 :: 18 :: 3 :: 46 :: 161 :: 0 :: 21 :: 42 :: 4 :: 182 :: 0 :: 91 :: 42 :: 180 :: 0 :: 18 :: 4 :: 46 :: 161 :: 0 :: 7 :: lX0_isPeace_1
theorem bX0_isPeace_0 : (dz_l cX0_isPeace).drop 0 = lX0_isPeace_0 := by decide +kernel
theorem bX0_isPeace_1 : (dz_l cX0_isPeace).drop 28 = lX0_isPeace_1 := dz_dr (n := 28) bX0_isPeace_0 rfl rfl
def lX0_isDuel_0 : List Nat := 42 :: 180 :: 0 :: 21 :: 42 :: 180 :: 0 :: 25 :: 161 :: 0 :: 7 :: 4 :: 167 :: 0 :: 4 :: 3 :: 172 :: []
theorem bX0_isDuel_0 : (dz_l cX0_isDuel).drop 0 = lX0_isDuel_0 := by decide +kernel
def lX0_standsAsNumber_1 : List Nat := 132 :: 2 :: 1 :: 167 :: 255 :: 236 :: 27 :: 172 :: []
def lX0_standsAsNumber_0 : List Nat := 3 :: 60 :: 3 :: 61 :: 28 :: 7 :: 162 :: 0 :: 21 :: 27 :: 16 :: 10 :: 104 :: 42 :: 180 :: 0 :: 9 :: 28 :: 46 :: 96 :: 60 :: lX0_standsAsNumber_1
theorem bX0_standsAsNumber_0 : (dz_l cX0_standsAsNumber).drop 0 = lX0_standsAsNumber_0 := by decide +kernel
theorem bX0_standsAsNumber_1 : (dz_l cX0_standsAsNumber).drop 21 = lX0_standsAsNumber_1 := dz_dr (n := 21) bX0_standsAsNumber_0 rfl rfl
def lX0_sumOverFriends_1 : List Nat := 28 :: 172 :: []
def lX0_sumOverFriends_0 : List Nat := 3 :: 61 :: 3 :: 62 :: 29 :: 42 :: 180 :: 0 :: 40 :: 162 :: 0 :: 15 :: 28 :: 43 :: 29 :: 46 :: 96 :: 61 :: 132 :: 3 :: 1 :: 167 :: 255 :: 239 :: lX0_sumOverFriends_1
theorem bX0_sumOverFriends_0 : (dz_l cX0_sumOverFriends).drop 0 = lX0_sumOverFriends_0 := by decide +kernel
theorem bX0_sumOverFriends_1 : (dz_l cX0_sumOverFriends).drop 24 = lX0_sumOverFriends_1 := dz_dr (n := 24) bX0_sumOverFriends_0 rfl rfl
def lX0_toneOf_2 : List Nat := 29 :: 5 :: 108 :: 16 :: 10 :: 100 :: 3 :: 184 :: 0 :: 103 :: 172 :: 29 :: 172 :: []
def lX0_toneOf_1 : List Nat := 172 :: 42 :: 27 :: 182 :: 0 :: 95 :: 62 :: 28 :: 170 :: 0 :: 0 :: 0 :: 54 :: 0 :: 0 :: 0 :: 1 :: 0 :: 0 :: 0 :: 4 :: 0 :: 0 :: 0 :: 29 :: 0 :: 0 :: 0 :: 39 :: 0 :: 0 :: 0 :: 29 :: 0 :: 0 :: 0 :: 43 :: 29 :: 16 :: 20 :: 96 :: 16 :: 99 :: 184 :: 0 :: 98 :: 172 :: 29 :: 5 :: 108 :: 172 :: lX0_toneOf_2
def lX0_toneOf_0 : List Nat := 42 :: 180 :: 0 :: 43 :: 27 :: 46 :: 61 :: 28 :: 8 :: 159 :: 0 :: 17 :: 28 :: 6 :: 160 :: 0 :: 14 :: 42 :: 180 :: 0 :: 21 :: 16 :: 40 :: 161 :: 0 :: 5 :: 3 :: lX0_toneOf_1
theorem bX0_toneOf_0 : (dz_l cX0_toneOf).drop 0 = lX0_toneOf_0 := by decide +kernel
theorem bX0_toneOf_1 : (dz_l cX0_toneOf).drop 27 = lX0_toneOf_1 := dz_dr (n := 27) bX0_toneOf_0 rfl rfl
theorem bX0_toneOf_2 : (dz_l cX0_toneOf).drop 78 = lX0_toneOf_2 := dz_dr (n := 51) bX0_toneOf_1 rfl rfl
def lX0_plainTone_1 : List Nat := 44 :: 42 :: 180 :: 0 :: 49 :: 27 :: 46 :: 42 :: 180 :: 0 :: 21 :: 42 :: 180 :: 0 :: 52 :: 27 :: 46 :: 182 :: 0 :: 110 :: 16 :: 99 :: 184 :: 0 :: 114 :: 172 :: []
def lX0_plainTone_0 : List Nat := 42 :: 3 :: 182 :: 0 :: 106 :: 77 :: 44 :: 199 :: 0 :: 17 :: 42 :: 180 :: 0 :: 49 :: 27 :: 46 :: 42 :: 180 :: 0 :: 21 :: 96 :: 5 :: 108 :: 172 :: lX0_plainTone_1
theorem bX0_plainTone_0 : (dz_l cX0_plainTone).drop 0 = lX0_plainTone_0 := by decide +kernel
theorem bX0_plainTone_1 : (dz_l cX0_plainTone).drop 24 = lX0_plainTone_1 := dz_dr (n := 24) bX0_plainTone_0 rfl rfl
def lX0_termYielded_6 : List Nat := 167 :: 255 :: 152 :: 21 :: 7 :: 172 :: []
def lX0_termYielded_5 : List Nat := 21 :: 7 :: 155 :: 0 :: 25 :: 21 :: 5 :: 153 :: 0 :: 13 :: 21 :: 11 :: 21 :: 8 :: 164 :: 0 :: 21 :: 167 :: 0 :: 10 :: 21 :: 11 :: 21 :: 8 :: 162 :: 0 :: 11 :: 21 :: 9 :: 54 :: 7 :: 21 :: 11 :: 54 :: 8 :: 132 :: 9 :: 1 :: lX0_termYielded_6
def lX0_termYielded_4 : List Nat := 46 :: 16 :: 9 :: 162 :: 0 :: 7 :: 4 :: 167 :: 0 :: 4 :: 3 :: 54 :: 10 :: 42 :: 180 :: 0 :: 15 :: 21 :: 6 :: 21 :: 9 :: 184 :: 0 :: 87 :: 46 :: 54 :: 11 :: 21 :: 10 :: 153 :: 0 :: 38 :: lX0_termYielded_5
def lX0_termYielded_3 : List Nat := 7 :: 162 :: 0 :: 104 :: 29 :: 154 :: 0 :: 21 :: 42 :: 180 :: 0 :: 9 :: 21 :: 9 :: 46 :: 158 :: 0 :: 7 :: 4 :: 167 :: 0 :: 24 :: 3 :: 167 :: 0 :: 20 :: 42 :: 180 :: 0 :: 9 :: 21 :: 9 :: lX0_termYielded_4
def lX0_termYielded_2 : List Nat := 54 :: 5 :: 21 :: 4 :: 153 :: 0 :: 9 :: 4 :: 29 :: 100 :: 167 :: 0 :: 4 :: 29 :: 54 :: 6 :: 2 :: 54 :: 7 :: 3 :: 54 :: 8 :: 3 :: 54 :: 9 :: 21 :: 9 :: lX0_termYielded_3
def lX0_termYielded_1 : List Nat := 28 :: 7 :: 160 :: 0 :: 7 :: 4 :: 167 :: 0 :: 4 :: 3 :: 54 :: 4 :: 28 :: 7 :: 159 :: 0 :: 8 :: 28 :: 8 :: 160 :: 0 :: 7 :: 4 :: 167 :: 0 :: 4 :: 3 :: lX0_termYielded_2
def lX0_termYielded_0 : List Nat := 42 :: 180 :: 0 :: 43 :: 27 :: 46 :: 61 :: 42 :: 180 :: 0 :: 46 :: 27 :: 46 :: 62 :: 28 :: 4 :: 159 :: 0 :: 13 :: 28 :: 6 :: 159 :: 0 :: 8 :: lX0_termYielded_1
theorem bX0_termYielded_0 : (dz_l cX0_termYielded).drop 0 = lX0_termYielded_0 := by decide +kernel
theorem bX0_termYielded_1 : (dz_l cX0_termYielded).drop 24 = lX0_termYielded_1 := dz_dr (n := 24) bX0_termYielded_0 rfl rfl
theorem bX0_termYielded_2 : (dz_l cX0_termYielded).drop 51 = lX0_termYielded_2 := dz_dr (n := 27) bX0_termYielded_1 rfl rfl
theorem bX0_termYielded_3 : (dz_l cX0_termYielded).drop 78 = lX0_termYielded_3 := dz_dr (n := 27) bX0_termYielded_2 rfl rfl
theorem bX0_termYielded_4 : (dz_l cX0_termYielded).drop 110 = lX0_termYielded_4 := dz_dr (n := 32) bX0_termYielded_3 rfl rfl
theorem bX0_termYielded_5 : (dz_l cX0_termYielded).drop 142 = lX0_termYielded_5 := dz_dr (n := 32) bX0_termYielded_4 rfl rfl
theorem bX0_termYielded_6 : (dz_l cX0_termYielded).drop 180 = lX0_termYielded_6 := dz_dr (n := 38) bX0_termYielded_5 rfl rfl
def lX0_runPosts_1 : List Nat := 182 :: 0 :: 124 :: 96 :: 62 :: 132 :: 4 :: 1 :: 167 :: 255 :: 225 :: 42 :: 89 :: 180 :: 0 :: 34 :: 27 :: 96 :: 181 :: 0 :: 34 :: 29 :: 172 :: []
def lX0_runPosts_0 : List Nat := 3 :: 62 :: 3 :: 54 :: 4 :: 21 :: 4 :: 27 :: 162 :: 0 :: 31 :: 42 :: 182 :: 0 :: 117 :: 154 :: 0 :: 24 :: 42 :: 182 :: 0 :: 121 :: 154 :: 0 :: 17 :: 29 :: 42 :: 28 :: lX0_runPosts_1
theorem bX0_runPosts_0 : (dz_l cX0_runPosts).drop 0 = lX0_runPosts_0 := by decide +kernel
theorem bX0_runPosts_1 : (dz_l cX0_runPosts).drop 28 = lX0_runPosts_1 := dz_dr (n := 28) bX0_runPosts_0 rfl rfl
def lX0_writeLetters_7 : List Nat := 172 :: []
def lX0_writeLetters_6 : List Nat := 46 :: 96 :: 16 :: 9 :: 184 :: 0 :: 114 :: 79 :: 132 :: 4 :: 1 :: 167 :: 255 :: 220 :: 42 :: 42 :: 180 :: 0 :: 21 :: 28 :: 96 :: 16 :: 99 :: 184 :: 0 :: 114 :: 181 :: 0 :: 21 :: 29 :: lX0_writeLetters_7
def lX0_writeLetters_5 : List Nat := 167 :: 255 :: 122 :: 3 :: 54 :: 4 :: 21 :: 4 :: 7 :: 162 :: 0 :: 36 :: 42 :: 180 :: 0 :: 9 :: 21 :: 4 :: 42 :: 180 :: 0 :: 9 :: 21 :: 4 :: 46 :: 42 :: 180 :: 0 :: 70 :: 21 :: 4 :: lX0_writeLetters_6
def lX0_writeLetters_4 : List Nat := 2 :: 167 :: 0 :: 4 :: 4 :: 96 :: 79 :: 42 :: 180 :: 0 :: 55 :: 21 :: 4 :: 92 :: 46 :: 4 :: 96 :: 79 :: 132 :: 2 :: 255 :: 132 :: 3 :: 1 :: 132 :: 4 :: 1 :: lX0_writeLetters_5
def lX0_writeLetters_3 : List Nat := 21 :: 4 :: 182 :: 0 :: 140 :: 54 :: 5 :: 21 :: 5 :: 184 :: 0 :: 143 :: 153 :: 0 :: 45 :: 42 :: 180 :: 0 :: 70 :: 21 :: 5 :: 92 :: 46 :: 42 :: 180 :: 0 :: 46 :: 21 :: 4 :: 46 :: 154 :: 0 :: 7 :: lX0_writeLetters_4
def lX0_writeLetters_2 : List Nat := 162 :: 0 :: 16 :: 42 :: 89 :: 180 :: 0 :: 31 :: 4 :: 96 :: 181 :: 0 :: 31 :: 167 :: 0 :: 78 :: 42 :: 21 :: 4 :: 182 :: 0 :: 137 :: 16 :: 50 :: 161 :: 0 :: 9 :: 132 :: 2 :: 5 :: 167 :: 0 :: 61 :: 42 :: lX0_writeLetters_3
def lX0_writeLetters_1 : List Nat := 160 :: 0 :: 6 :: 167 :: 0 :: 116 :: 42 :: 180 :: 0 :: 52 :: 21 :: 4 :: 92 :: 46 :: 4 :: 96 :: 79 :: 42 :: 182 :: 0 :: 133 :: 16 :: 100 :: 112 :: 42 :: 180 :: 0 :: 28 :: lX0_writeLetters_2
def lX0_writeLetters_0 : List Nat := 42 :: 180 :: 0 :: 70 :: 3 :: 184 :: 0 :: 127 :: 3 :: 61 :: 3 :: 62 :: 3 :: 54 :: 4 :: 21 :: 4 :: 42 :: 180 :: 0 :: 40 :: 162 :: 0 :: 131 :: 21 :: 4 :: 27 :: lX0_writeLetters_1
theorem bX0_writeLetters_0 : (dz_l cX0_writeLetters).drop 0 = lX0_writeLetters_0 := by decide +kernel
theorem bX0_writeLetters_1 : (dz_l cX0_writeLetters).drop 27 = lX0_writeLetters_1 := dz_dr (n := 27) bX0_writeLetters_0 rfl rfl
theorem bX0_writeLetters_2 : (dz_l cX0_writeLetters).drop 55 = lX0_writeLetters_2 := dz_dr (n := 28) bX0_writeLetters_1 rfl rfl
theorem bX0_writeLetters_3 : (dz_l cX0_writeLetters).drop 89 = lX0_writeLetters_3 := dz_dr (n := 34) bX0_writeLetters_2 rfl rfl
theorem bX0_writeLetters_4 : (dz_l cX0_writeLetters).drop 122 = lX0_writeLetters_4 := dz_dr (n := 33) bX0_writeLetters_3 rfl rfl
theorem bX0_writeLetters_5 : (dz_l cX0_writeLetters).drop 149 = lX0_writeLetters_5 := dz_dr (n := 27) bX0_writeLetters_4 rfl rfl
theorem bX0_writeLetters_6 : (dz_l cX0_writeLetters).drop 180 = lX0_writeLetters_6 := dz_dr (n := 31) bX0_writeLetters_5 rfl rfl
theorem bX0_writeLetters_7 : (dz_l cX0_writeLetters).drop 210 = lX0_writeLetters_7 := dz_dr (n := 30) bX0_writeLetters_6 rfl rfl
def lX1_init_2 : List Nat := 3 :: 181 :: 0 :: 44 :: 42 :: 3 :: 181 :: 0 :: 47 :: 177 :: []
def lX1_init_1 : List Nat := 42 :: 2 :: 181 :: 0 :: 28 :: 42 :: 2 :: 181 :: 0 :: 31 :: 42 :: 16 :: 96 :: 188 :: 10 :: 181 :: 0 :: 34 :: 42 :: 3 :: 181 :: 0 :: 38 :: 42 :: 3 :: 181 :: 0 :: 41 :: 42 :: lX1_init_2
def lX1_init_0 : List Nat := 42 :: 183 :: 0 :: 3 :: 42 :: 187 :: 0 :: 9 :: 89 :: 183 :: 0 :: 11 :: 181 :: 0 :: 12 :: 42 :: 3 :: 181 :: 0 :: 18 :: 42 :: 3 :: 181 :: 0 :: 22 :: 42 :: 3 :: 181 :: 0 :: 25 :: lX1_init_1
theorem bX1_init_0 : (dz_l cX1_init).drop 0 = lX1_init_0 := by decide +kernel
theorem bX1_init_1 : (dz_l cX1_init).drop 30 = lX1_init_1 := dz_dr (n := 30) bX1_init_0 rfl rfl
theorem bX1_init_2 : (dz_l cX1_init).drop 59 = lX1_init_2 := dz_dr (n := 29) bX1_init_1 rfl rfl
def lX1_findFault_2 : List Nat := 42 :: 180 :: 0 :: 28 :: 172 :: []
def lX1_findFault_1 : List Nat := 3 :: 181 :: 0 :: 44 :: 42 :: 3 :: 181 :: 0 :: 47 :: 42 :: 182 :: 0 :: 50 :: 42 :: 182 :: 0 :: 53 :: 42 :: 182 :: 0 :: 56 :: 42 :: 180 :: 0 :: 22 :: 153 :: 0 :: 7 :: 42 :: 182 :: 0 :: 59 :: lX1_findFault_2
def lX1_findFault_0 : List Nat := 42 :: 3 :: 181 :: 0 :: 18 :: 42 :: 3 :: 181 :: 0 :: 22 :: 42 :: 2 :: 181 :: 0 :: 28 :: 42 :: 3 :: 181 :: 0 :: 38 :: 42 :: 3 :: 181 :: 0 :: 41 :: 42 :: lX1_findFault_1
theorem bX1_findFault_0 : (dz_l cX1_findFault).drop 0 = lX1_findFault_0 := by decide +kernel
theorem bX1_findFault_1 : (dz_l cX1_findFault).drop 26 = lX1_findFault_1 := dz_dr (n := 26) bX1_findFault_0 rfl rfl
theorem bX1_findFault_2 : (dz_l cX1_findFault).drop 58 = lX1_findFault_2 := dz_dr (n := 32) bX1_findFault_1 rfl rfl
def lX1_makeText_0 : List Nat := 187 :: 0 :: 62 :: 89 :: 42 :: 180 :: 0 :: 31 :: 42 :: 180 :: 0 :: 41 :: 42 :: 180 :: 0 :: 34 :: 42 :: 180 :: 0 :: 38 :: 184 :: 0 :: 64 :: 183 :: 0 :: 70 :: 176 :: []
theorem bX1_makeText_0 : (dz_l cX1_makeText).drop 0 = lX1_makeText_0 := by decide +kernel
def lX1_fail_0 : List Nat := 42 :: 180 :: 0 :: 28 :: 156 :: 0 :: 11 :: 42 :: 42 :: 180 :: 0 :: 25 :: 181 :: 0 :: 28 :: 177 :: []
theorem bX1_fail_0 : (dz_l cX1_fail).drop 0 = lX1_fail_0 := by decide +kernel
def lX1_advance_7 : List Nat := 180 :: 0 :: 25 :: 100 :: 7 :: 164 :: 0 :: 8 :: 42 :: 8 :: 181 :: 0 :: 22 :: 177 :: []
def lX1_advance_6 : List Nat := 180 :: 0 :: 25 :: 27 :: 160 :: 0 :: 7 :: 4 :: 167 :: 0 :: 4 :: 3 :: 62 :: 29 :: 154 :: 0 :: 24 :: 42 :: 180 :: 0 :: 22 :: 5 :: 160 :: 0 :: 21 :: 42 :: 180 :: 0 :: 18 :: 42 :: lX1_advance_7
def lX1_advance_5 : List Nat := 180 :: 0 :: 18 :: 46 :: 184 :: 0 :: 79 :: 42 :: 180 :: 0 :: 22 :: 160 :: 0 :: 16 :: 42 :: 89 :: 180 :: 0 :: 18 :: 4 :: 96 :: 181 :: 0 :: 18 :: 167 :: 255 :: 210 :: 28 :: 153 :: 0 :: 15 :: 42 :: lX1_advance_6
def lX1_advance_4 : List Nat := 181 :: 0 :: 18 :: 42 :: 180 :: 0 :: 22 :: 6 :: 160 :: 0 :: 4 :: 177 :: 42 :: 180 :: 0 :: 18 :: 42 :: 180 :: 0 :: 12 :: 180 :: 0 :: 73 :: 162 :: 0 :: 38 :: 42 :: 180 :: 0 :: 12 :: 180 :: 0 :: 76 :: 42 :: lX1_advance_5
def lX1_advance_3 : List Nat := 181 :: 0 :: 22 :: 177 :: 42 :: 42 :: 180 :: 0 :: 12 :: 180 :: 0 :: 76 :: 42 :: 180 :: 0 :: 18 :: 46 :: 184 :: 0 :: 79 :: 181 :: 0 :: 22 :: 42 :: 89 :: 180 :: 0 :: 18 :: 4 :: 96 :: lX1_advance_4
def lX1_advance_2 : List Nat := 4 :: 96 :: 181 :: 0 :: 18 :: 167 :: 255 :: 215 :: 42 :: 42 :: 180 :: 0 :: 18 :: 181 :: 0 :: 25 :: 42 :: 180 :: 0 :: 18 :: 42 :: 180 :: 0 :: 12 :: 180 :: 0 :: 73 :: 161 :: 0 :: 9 :: 42 :: 3 :: lX1_advance_3
def lX1_advance_1 : List Nat := 180 :: 0 :: 18 :: 42 :: 180 :: 0 :: 12 :: 180 :: 0 :: 73 :: 162 :: 0 :: 33 :: 42 :: 180 :: 0 :: 12 :: 180 :: 0 :: 76 :: 42 :: 180 :: 0 :: 18 :: 46 :: 16 :: 32 :: 160 :: 0 :: 16 :: 42 :: 89 :: 180 :: 0 :: 18 :: lX1_advance_2
def lX1_advance_0 : List Nat := 42 :: 180 :: 0 :: 18 :: 60 :: 42 :: 180 :: 0 :: 22 :: 4 :: 159 :: 0 :: 11 :: 42 :: 180 :: 0 :: 22 :: 5 :: 160 :: 0 :: 7 :: 4 :: 167 :: 0 :: 4 :: 3 :: 61 :: 42 :: lX1_advance_1
theorem bX1_advance_0 : (dz_l cX1_advance).drop 0 = lX1_advance_0 := by decide +kernel
theorem bX1_advance_1 : (dz_l cX1_advance).drop 28 = lX1_advance_1 := dz_dr (n := 28) bX1_advance_0 rfl rfl
theorem bX1_advance_2 : (dz_l cX1_advance).drop 63 = lX1_advance_2 := dz_dr (n := 35) bX1_advance_1 rfl rfl
theorem bX1_advance_3 : (dz_l cX1_advance).drop 95 = lX1_advance_3 := dz_dr (n := 32) bX1_advance_2 rfl rfl
theorem bX1_advance_4 : (dz_l cX1_advance).drop 125 = lX1_advance_4 := dz_dr (n := 30) bX1_advance_3 rfl rfl
theorem bX1_advance_5 : (dz_l cX1_advance).drop 159 = lX1_advance_5 := dz_dr (n := 34) bX1_advance_4 rfl rfl
theorem bX1_advance_6 : (dz_l cX1_advance).drop 191 = lX1_advance_6 := dz_dr (n := 32) bX1_advance_5 rfl rfl
theorem bX1_advance_7 : (dz_l cX1_advance).drop 221 = lX1_advance_7 := dz_dr (n := 30) bX1_advance_6 rfl rfl
def lX1_sortOf_1 : List Nat := 26 :: 16 :: 32 :: 160 :: 0 :: 7 :: 7 :: 167 :: 0 :: 4 :: 6 :: 172 :: []
def lX1_sortOf_0 : List Nat := 26 :: 16 :: 97 :: 161 :: 0 :: 11 :: 26 :: 16 :: 122 :: 163 :: 0 :: 5 :: 4 :: 172 :: 26 :: 16 :: 48 :: 161 :: 0 :: 11 :: 26 :: 16 :: 57 :: 163 :: 0 :: 5 :: 5 :: 172 :: lX1_sortOf_1
theorem bX1_sortOf_0 : (dz_l cX1_sortOf).drop 0 = lX1_sortOf_0 := by decide +kernel
theorem bX1_sortOf_1 : (dz_l cX1_sortOf).drop 28 = lX1_sortOf_1 := dz_dr (n := 28) bX1_sortOf_0 rfl rfl
def lX1_isSign_1 : List Nat := 167 :: 0 :: 4 :: 3 :: 172 :: []
def lX1_isSign_0 : List Nat := 42 :: 180 :: 0 :: 28 :: 156 :: 0 :: 31 :: 42 :: 180 :: 0 :: 22 :: 6 :: 160 :: 0 :: 23 :: 42 :: 180 :: 0 :: 12 :: 180 :: 0 :: 76 :: 42 :: 180 :: 0 :: 25 :: 46 :: 27 :: 160 :: 0 :: 7 :: 4 :: lX1_isSign_1
theorem bX1_isSign_0 : (dz_l cX1_isSign).drop 0 = lX1_isSign_0 := by decide +kernel
theorem bX1_isSign_1 : (dz_l cX1_isSign).drop 32 = lX1_isSign_1 := dz_dr (n := 32) bX1_isSign_0 rfl rfl
def lX1_isWord_2 : List Nat := 3 :: 172 :: 132 :: 2 :: 1 :: 167 :: 255 :: 221 :: 4 :: 172 :: []
def lX1_isWord_1 : List Nat := 28 :: 43 :: 182 :: 0 :: 83 :: 162 :: 0 :: 33 :: 42 :: 180 :: 0 :: 12 :: 180 :: 0 :: 76 :: 42 :: 180 :: 0 :: 25 :: 28 :: 96 :: 46 :: 43 :: 28 :: 182 :: 0 :: 88 :: 159 :: 0 :: 5 :: lX1_isWord_2
def lX1_isWord_0 : List Nat := 42 :: 180 :: 0 :: 22 :: 4 :: 160 :: 0 :: 19 :: 42 :: 180 :: 0 :: 18 :: 42 :: 180 :: 0 :: 25 :: 100 :: 43 :: 182 :: 0 :: 83 :: 159 :: 0 :: 5 :: 3 :: 172 :: 3 :: 61 :: lX1_isWord_1
theorem bX1_isWord_0 : (dz_l cX1_isWord).drop 0 = lX1_isWord_0 := by decide +kernel
theorem bX1_isWord_1 : (dz_l cX1_isWord).drop 28 = lX1_isWord_1 := dz_dr (n := 28) bX1_isWord_0 rfl rfl
theorem bX1_isWord_2 : (dz_l cX1_isWord).drop 58 = lX1_isWord_2 := dz_dr (n := 30) bX1_isWord_1 rfl rfl
def lX1_readKey_1 : List Nat := 42 :: 18 :: 100 :: 182 :: 0 :: 94 :: 153 :: 0 :: 11 :: 42 :: 5 :: 181 :: 0 :: 31 :: 167 :: 0 :: 8 :: 42 :: 182 :: 0 :: 59 :: 177 :: 42 :: 182 :: 0 :: 50 :: 177 :: []
def lX1_readKey_0 : List Nat := 42 :: 18 :: 92 :: 182 :: 0 :: 94 :: 153 :: 0 :: 11 :: 42 :: 3 :: 181 :: 0 :: 31 :: 167 :: 0 :: 42 :: 42 :: 18 :: 98 :: 182 :: 0 :: 94 :: 153 :: 0 :: 11 :: 42 :: 4 :: 181 :: 0 :: 31 :: 167 :: 0 :: 25 :: lX1_readKey_1
theorem bX1_readKey_0 : (dz_l cX1_readKey).drop 0 = lX1_readKey_0 := by decide +kernel
theorem bX1_readKey_1 : (dz_l cX1_readKey).drop 34 = lX1_readKey_1 := dz_dr (n := 34) bX1_readKey_0 rfl rfl
def lX1_readOr_1 : List Nat := 16 :: 132 :: 182 :: 0 :: 109 :: 132 :: 1 :: 1 :: 167 :: 255 :: 224 :: 177 :: []
def lX1_readOr_0 : List Nat := 42 :: 182 :: 0 :: 102 :: 3 :: 60 :: 27 :: 16 :: 96 :: 162 :: 0 :: 32 :: 42 :: 16 :: 124 :: 182 :: 0 :: 105 :: 153 :: 0 :: 23 :: 42 :: 182 :: 0 :: 50 :: 42 :: 182 :: 0 :: 102 :: 42 :: lX1_readOr_1
theorem bX1_readOr_0 : (dz_l cX1_readOr).drop 0 = lX1_readOr_0 := by decide +kernel
theorem bX1_readOr_1 : (dz_l cX1_readOr).drop 30 = lX1_readOr_1 := dz_dr (n := 30) bX1_readOr_0 rfl rfl
def lX1_readAnd_1 : List Nat := 16 :: 218 :: 182 :: 0 :: 109 :: 132 :: 1 :: 1 :: 167 :: 255 :: 224 :: 177 :: []
def lX1_readAnd_0 : List Nat := 42 :: 182 :: 0 :: 113 :: 3 :: 60 :: 27 :: 16 :: 96 :: 162 :: 0 :: 32 :: 42 :: 16 :: 38 :: 182 :: 0 :: 105 :: 153 :: 0 :: 23 :: 42 :: 182 :: 0 :: 50 :: 42 :: 182 :: 0 :: 113 :: 42 :: lX1_readAnd_1
theorem bX1_readAnd_0 : (dz_l cX1_readAnd).drop 0 = lX1_readAnd_0 := by decide +kernel
theorem bX1_readAnd_1 : (dz_l cX1_readAnd).drop 30 = lX1_readAnd_1 := dz_dr (n := 30) bX1_readAnd_0 rfl rfl
def lX1_readTest_1 : List Nat := 180 :: 0 :: 76 :: 42 :: 180 :: 0 :: 25 :: 46 :: 60 :: 42 :: 182 :: 0 :: 50 :: 42 :: 182 :: 0 :: 116 :: 42 :: 27 :: 116 :: 182 :: 0 :: 109 :: 177 :: []
def lX1_readTest_0 : List Nat := 42 :: 182 :: 0 :: 116 :: 42 :: 16 :: 60 :: 182 :: 0 :: 105 :: 154 :: 0 :: 21 :: 42 :: 16 :: 61 :: 182 :: 0 :: 105 :: 154 :: 0 :: 12 :: 42 :: 16 :: 62 :: 182 :: 0 :: 105 :: 153 :: 0 :: 30 :: 42 :: 180 :: 0 :: 12 :: lX1_readTest_1
theorem bX1_readTest_0 : (dz_l cX1_readTest).drop 0 = lX1_readTest_0 := by decide +kernel
theorem bX1_readTest_1 : (dz_l cX1_readTest).drop 35 = lX1_readTest_1 := dz_dr (n := 35) bX1_readTest_0 rfl rfl
def lX1_readSum_2 : List Nat := 177 :: []
def lX1_readSum_1 : List Nat := 180 :: 0 :: 12 :: 180 :: 0 :: 76 :: 42 :: 180 :: 0 :: 25 :: 46 :: 61 :: 42 :: 182 :: 0 :: 50 :: 42 :: 182 :: 0 :: 119 :: 42 :: 28 :: 116 :: 182 :: 0 :: 109 :: 132 :: 1 :: 1 :: 167 :: 255 :: 202 :: lX1_readSum_2
def lX1_readSum_0 : List Nat := 42 :: 182 :: 0 :: 119 :: 3 :: 60 :: 27 :: 16 :: 96 :: 162 :: 0 :: 54 :: 42 :: 16 :: 43 :: 182 :: 0 :: 105 :: 154 :: 0 :: 12 :: 42 :: 16 :: 45 :: 182 :: 0 :: 105 :: 153 :: 0 :: 36 :: 42 :: lX1_readSum_1
theorem bX1_readSum_0 : (dz_l cX1_readSum).drop 0 = lX1_readSum_0 := by decide +kernel
theorem bX1_readSum_1 : (dz_l cX1_readSum).drop 31 = lX1_readSum_1 := dz_dr (n := 31) bX1_readSum_0 rfl rfl
theorem bX1_readSum_2 : (dz_l cX1_readSum).drop 63 = lX1_readSum_2 := dz_dr (n := 32) bX1_readSum_1 rfl rfl
def lX1_readProduct_2 : List Nat := 177 :: []
def lX1_readProduct_1 : List Nat := 180 :: 0 :: 12 :: 180 :: 0 :: 76 :: 42 :: 180 :: 0 :: 25 :: 46 :: 61 :: 42 :: 182 :: 0 :: 50 :: 42 :: 182 :: 0 :: 122 :: 42 :: 28 :: 116 :: 182 :: 0 :: 109 :: 132 :: 1 :: 1 :: 167 :: 255 :: 202 :: lX1_readProduct_2
def lX1_readProduct_0 : List Nat := 42 :: 182 :: 0 :: 122 :: 3 :: 60 :: 27 :: 16 :: 96 :: 162 :: 0 :: 54 :: 42 :: 16 :: 42 :: 182 :: 0 :: 105 :: 154 :: 0 :: 12 :: 42 :: 16 :: 47 :: 182 :: 0 :: 105 :: 153 :: 0 :: 36 :: 42 :: lX1_readProduct_1
theorem bX1_readProduct_0 : (dz_l cX1_readProduct).drop 0 = lX1_readProduct_0 := by decide +kernel
theorem bX1_readProduct_1 : (dz_l cX1_readProduct).drop 31 = lX1_readProduct_1 := dz_dr (n := 31) bX1_readProduct_0 rfl rfl
theorem bX1_readProduct_2 : (dz_l cX1_readProduct).drop 63 = lX1_readProduct_2 := dz_dr (n := 32) bX1_readProduct_1 rfl rfl
def lX1_readPiece_5 : List Nat := 182 :: 0 :: 134 :: 167 :: 0 :: 7 :: 42 :: 182 :: 0 :: 59 :: 177 :: []
def lX1_readPiece_4 : List Nat := 89 :: 180 :: 0 :: 44 :: 4 :: 96 :: 181 :: 0 :: 44 :: 42 :: 182 :: 0 :: 50 :: 42 :: 182 :: 0 :: 56 :: 42 :: 89 :: 180 :: 0 :: 44 :: 4 :: 100 :: 181 :: 0 :: 44 :: 42 :: lX1_readPiece_5
def lX1_readPiece_3 : List Nat := 4 :: 100 :: 181 :: 0 :: 47 :: 42 :: 16 :: 223 :: 182 :: 0 :: 109 :: 167 :: 0 :: 60 :: 42 :: 16 :: 40 :: 182 :: 0 :: 105 :: 153 :: 0 :: 47 :: 42 :: 180 :: 0 :: 44 :: 16 :: 8 :: 162 :: 0 :: 38 :: 42 :: lX1_readPiece_4
def lX1_readPiece_2 : List Nat := 180 :: 0 :: 47 :: 16 :: 8 :: 162 :: 0 :: 40 :: 42 :: 89 :: 180 :: 0 :: 47 :: 4 :: 96 :: 181 :: 0 :: 47 :: 42 :: 182 :: 0 :: 50 :: 42 :: 182 :: 0 :: 122 :: 42 :: 89 :: 180 :: 0 :: 47 :: lX1_readPiece_3
def lX1_readPiece_1 : List Nat := 182 :: 0 :: 131 :: 155 :: 0 :: 20 :: 42 :: 2 :: 42 :: 182 :: 0 :: 131 :: 100 :: 182 :: 0 :: 128 :: 42 :: 182 :: 0 :: 50 :: 167 :: 0 :: 115 :: 42 :: 16 :: 33 :: 182 :: 0 :: 105 :: 153 :: 0 :: 49 :: 42 :: lX1_readPiece_2
def lX1_readPiece_0 : List Nat := 42 :: 180 :: 0 :: 28 :: 155 :: 0 :: 4 :: 177 :: 42 :: 180 :: 0 :: 22 :: 5 :: 160 :: 0 :: 18 :: 42 :: 42 :: 182 :: 0 :: 125 :: 182 :: 0 :: 128 :: 42 :: 182 :: 0 :: 50 :: 167 :: 0 :: 139 :: 42 :: lX1_readPiece_1
theorem bX1_readPiece_0 : (dz_l cX1_readPiece).drop 0 = lX1_readPiece_0 := by decide +kernel
theorem bX1_readPiece_1 : (dz_l cX1_readPiece).drop 32 = lX1_readPiece_1 := dz_dr (n := 32) bX1_readPiece_0 rfl rfl
theorem bX1_readPiece_2 : (dz_l cX1_readPiece).drop 65 = lX1_readPiece_2 := dz_dr (n := 33) bX1_readPiece_1 rfl rfl
theorem bX1_readPiece_3 : (dz_l cX1_readPiece).drop 96 = lX1_readPiece_3 := dz_dr (n := 31) bX1_readPiece_2 rfl rfl
theorem bX1_readPiece_4 : (dz_l cX1_readPiece).drop 129 = lX1_readPiece_4 := dz_dr (n := 33) bX1_readPiece_3 rfl rfl
theorem bX1_readPiece_5 : (dz_l cX1_readPiece).drop 157 = lX1_readPiece_5 := dz_dr (n := 28) bX1_readPiece_4 rfl rfl
def lX1_closeBracket_0 : List Nat := 42 :: 16 :: 41 :: 182 :: 0 :: 105 :: 153 :: 0 :: 10 :: 42 :: 182 :: 0 :: 50 :: 167 :: 0 :: 7 :: 42 :: 182 :: 0 :: 59 :: 177 :: []
theorem bX1_closeBracket_0 : (dz_l cX1_closeBracket).drop 0 = lX1_closeBracket_0 := by decide +kernel
def lX1_numberRead_1 : List Nat := 46 :: 96 :: 16 :: 48 :: 100 :: 60 :: 132 :: 2 :: 1 :: 167 :: 255 :: 227 :: 27 :: 172 :: []
def lX1_numberRead_0 : List Nat := 3 :: 60 :: 42 :: 180 :: 0 :: 25 :: 61 :: 28 :: 42 :: 180 :: 0 :: 18 :: 162 :: 0 :: 27 :: 27 :: 16 :: 10 :: 104 :: 42 :: 180 :: 0 :: 12 :: 180 :: 0 :: 76 :: 28 :: lX1_numberRead_1
theorem bX1_numberRead_0 : (dz_l cX1_numberRead).drop 0 = lX1_numberRead_0 := by decide +kernel
theorem bX1_numberRead_1 : (dz_l cX1_numberRead).drop 27 = lX1_numberRead_1 := dz_dr (n := 27) bX1_numberRead_0 rfl rfl
def lX1_nameRead_2 : List Nat := 46 :: 146 :: 182 :: 0 :: 143 :: 172 :: []
def lX1_nameRead_1 : List Nat := 18 :: 137 :: 167 :: 0 :: 18 :: 42 :: 180 :: 0 :: 31 :: 4 :: 160 :: 0 :: 8 :: 18 :: 139 :: 167 :: 0 :: 5 :: 18 :: 141 :: 76 :: 43 :: 42 :: 180 :: 0 :: 12 :: 180 :: 0 :: 76 :: 42 :: 180 :: 0 :: 25 :: lX1_nameRead_2
def lX1_nameRead_0 : List Nat := 42 :: 180 :: 0 :: 22 :: 4 :: 160 :: 0 :: 16 :: 42 :: 180 :: 0 :: 18 :: 42 :: 180 :: 0 :: 25 :: 100 :: 4 :: 159 :: 0 :: 5 :: 2 :: 172 :: 42 :: 180 :: 0 :: 31 :: 154 :: 0 :: 8 :: lX1_nameRead_1
theorem bX1_nameRead_0 : (dz_l cX1_nameRead).drop 0 = lX1_nameRead_0 := by decide +kernel
theorem bX1_nameRead_1 : (dz_l cX1_nameRead).drop 30 = lX1_nameRead_1 := dz_dr (n := 30) bX1_nameRead_0 rfl rfl
theorem bX1_nameRead_2 : (dz_l cX1_nameRead).drop 63 = lX1_nameRead_2 := dz_dr (n := 33) bX1_nameRead_1 rfl rfl
def lX1_emitOperand_0 : List Nat := 42 :: 89 :: 180 :: 0 :: 41 :: 4 :: 96 :: 181 :: 0 :: 41 :: 42 :: 27 :: 182 :: 0 :: 109 :: 177 :: []
theorem bX1_emitOperand_0 : (dz_l cX1_emitOperand).drop 0 = lX1_emitOperand_0 := by decide +kernel
def lX1_emit_1 : List Nat := 177 :: []
def lX1_emit_0 : List Nat := 42 :: 180 :: 0 :: 38 :: 16 :: 96 :: 162 :: 0 :: 23 :: 42 :: 180 :: 0 :: 34 :: 42 :: 180 :: 0 :: 38 :: 27 :: 79 :: 42 :: 89 :: 180 :: 0 :: 38 :: 4 :: 96 :: 181 :: 0 :: 38 :: lX1_emit_1
theorem bX1_emit_0 : (dz_l cX1_emit).drop 0 = lX1_emit_0 := by decide +kernel
theorem bX1_emit_1 : (dz_l cX1_emit).drop 29 = lX1_emit_1 := dz_dr (n := 29) bX1_emit_0 rfl rfl
def lX2_init_0 : List Nat := 42 :: 183 :: 0 :: 3 :: 42 :: 2 :: 181 :: 0 :: 9 :: 42 :: 3 :: 181 :: 0 :: 15 :: 42 :: 16 :: 24 :: 188 :: 10 :: 181 :: 0 :: 18 :: 177 :: []
theorem bX2_init_0 : (dz_l cX2_init).drop 0 = lX2_init_0 := by decide +kernel
def lX2_renew_0 : List Nat := 42 :: 27 :: 181 :: 0 :: 9 :: 42 :: 28 :: 181 :: 0 :: 15 :: 42 :: 180 :: 0 :: 18 :: 3 :: 184 :: 0 :: 22 :: 177 :: []
theorem bX2_renew_0 : (dz_l cX2_renew).drop 0 = lX2_renew_0 := by decide +kernel
def lX2_becomes_1 : List Nat := 177 :: []
def lX2_becomes_0 : List Nat := 42 :: 43 :: 180 :: 0 :: 9 :: 181 :: 0 :: 9 :: 42 :: 43 :: 180 :: 0 :: 15 :: 181 :: 0 :: 15 :: 43 :: 180 :: 0 :: 18 :: 3 :: 42 :: 180 :: 0 :: 18 :: 3 :: 16 :: 24 :: 184 :: 0 :: 28 :: lX2_becomes_1
theorem bX2_becomes_0 : (dz_l cX2_becomes).drop 0 = lX2_becomes_0 := by decide +kernel
theorem bX2_becomes_1 : (dz_l cX2_becomes).drop 31 = lX2_becomes_1 := dz_dr (n := 31) bX2_becomes_0 rfl rfl
def lX2_isMissing_0 : List Nat := 42 :: 180 :: 0 :: 9 :: 2 :: 160 :: 0 :: 7 :: 4 :: 167 :: 0 :: 4 :: 3 :: 172 :: []
theorem bX2_isMissing_0 : (dz_l cX2_isMissing).drop 0 = lX2_isMissing_0 := by decide +kernel
def lX2_isPlace_0 : List Nat := 27 :: 3 :: 42 :: 180 :: 0 :: 15 :: 4 :: 100 :: 184 :: 0 :: 34 :: 172 :: []
theorem bX2_isPlace_0 : (dz_l cX2_isPlace).drop 0 = lX2_isPlace_0 := by decide +kernel
def lX2_isNumber_0 : List Nat := 42 :: 27 :: 182 :: 0 :: 38 :: 153 :: 0 :: 18 :: 42 :: 180 :: 0 :: 18 :: 27 :: 46 :: 18 :: 42 :: 159 :: 0 :: 7 :: 4 :: 167 :: 0 :: 4 :: 3 :: 172 :: []
theorem bX2_isNumber_0 : (dz_l cX2_isNumber).drop 0 = lX2_isNumber_0 := by decide +kernel
def lX2_hasPlaces_1 : List Nat := 3 :: 172 :: []
def lX2_hasPlaces_0 : List Nat := 28 :: 3 :: 42 :: 180 :: 0 :: 15 :: 184 :: 0 :: 34 :: 153 :: 0 :: 21 :: 27 :: 3 :: 42 :: 180 :: 0 :: 15 :: 28 :: 100 :: 184 :: 0 :: 34 :: 153 :: 0 :: 7 :: 4 :: 167 :: 0 :: 4 :: lX2_hasPlaces_1
theorem bX2_hasPlaces_0 : (dz_l cX2_hasPlaces).drop 0 = lX2_hasPlaces_0 := by decide +kernel
theorem bX2_hasPlaces_1 : (dz_l cX2_hasPlaces).drop 30 = lX2_hasPlaces_1 := dz_dr (n := 30) bX2_hasPlaces_0 rfl rfl
def lX3_init_1 : List Nat := 89 :: 183 :: 0 :: 26 :: 181 :: 0 :: 27 :: 177 :: []
def lX3_init_0 : List Nat := 42 :: 183 :: 0 :: 3 :: 42 :: 3 :: 181 :: 0 :: 9 :: 42 :: 3 :: 181 :: 0 :: 15 :: 42 :: 3 :: 181 :: 0 :: 18 :: 42 :: 3 :: 181 :: 0 :: 21 :: 42 :: 187 :: 0 :: 24 :: lX3_init_1
theorem bX3_init_0 : (dz_l cX3_init).drop 0 = lX3_init_0 := by decide +kernel
theorem bX3_init_1 : (dz_l cX3_init).drop 28 = lX3_init_1 := dz_dr (n := 28) bX3_init_0 rfl rfl
def lX4_init_0 : List Nat := 42 :: 183 :: 0 :: 3 :: 42 :: 16 :: 96 :: 188 :: 10 :: 181 :: 0 :: 9 :: 42 :: 3 :: 181 :: 0 :: 15 :: 177 :: []
theorem bX4_init_0 : (dz_l cX4_init).drop 0 = lX4_init_0 := by decide +kernel
def lX4_addBytesOf_1 : List Nat := 126 :: 79 :: 42 :: 89 :: 180 :: 0 :: 15 :: 4 :: 96 :: 181 :: 0 :: 15 :: 132 :: 2 :: 248 :: 167 :: 255 :: 214 :: 177 :: []
def lX4_addBytesOf_0 : List Nat := 16 :: 24 :: 61 :: 28 :: 155 :: 0 :: 44 :: 42 :: 180 :: 0 :: 15 :: 16 :: 96 :: 162 :: 0 :: 35 :: 42 :: 180 :: 0 :: 9 :: 42 :: 180 :: 0 :: 15 :: 27 :: 28 :: 124 :: 17 :: 0 :: 255 :: lX4_addBytesOf_1
theorem bX4_addBytesOf_0 : (dz_l cX4_addBytesOf).drop 0 = lX4_addBytesOf_0 := by decide +kernel
theorem bX4_addBytesOf_1 : (dz_l cX4_addBytesOf).drop 30 = lX4_addBytesOf_1 := dz_dr (n := 30) bX4_addBytesOf_0 rfl rfl
def lX5_init_1 : List Nat := 177 :: []
def lX5_init_0 : List Nat := 42 :: 183 :: 0 :: 1 :: 42 :: 27 :: 181 :: 0 :: 7 :: 42 :: 28 :: 181 :: 0 :: 13 :: 42 :: 45 :: 181 :: 0 :: 16 :: 42 :: 28 :: 4 :: 184 :: 0 :: 20 :: 188 :: 10 :: 181 :: 0 :: 26 :: lX5_init_1
theorem bX5_init_0 : (dz_l cX5_init).drop 0 = lX5_init_0 := by decide +kernel
theorem bX5_init_1 : (dz_l cX5_init).drop 30 = lX5_init_1 := dz_dr (n := 30) bX5_init_0 rfl rfl
def lX5_workOut_5 : List Nat := 4 :: 100 :: 46 :: 42 :: 180 :: 0 :: 26 :: 21 :: 4 :: 46 :: 184 :: 0 :: 29 :: 79 :: 132 :: 5 :: 1 :: 167 :: 255 :: 90 :: 42 :: 180 :: 0 :: 26 :: 3 :: 46 :: 172 :: []
def lX5_workOut_4 : List Nat := 79 :: 167 :: 0 :: 43 :: 21 :: 4 :: 5 :: 161 :: 0 :: 37 :: 132 :: 4 :: 255 :: 42 :: 180 :: 0 :: 26 :: 21 :: 4 :: 4 :: 100 :: 21 :: 6 :: 116 :: 42 :: 180 :: 0 :: 26 :: 21 :: 4 :: lX5_workOut_5
def lX5_workOut_3 : List Nat := 161 :: 0 :: 72 :: 42 :: 180 :: 0 :: 26 :: 21 :: 4 :: 4 :: 100 :: 42 :: 180 :: 0 :: 26 :: 21 :: 4 :: 4 :: 100 :: 46 :: 154 :: 0 :: 7 :: 4 :: 167 :: 0 :: 4 :: 3 :: lX5_workOut_4
def lX5_workOut_2 : List Nat := 27 :: 167 :: 0 :: 15 :: 21 :: 6 :: 16 :: 254 :: 160 :: 0 :: 7 :: 28 :: 167 :: 0 :: 4 :: 29 :: 79 :: 132 :: 4 :: 1 :: 167 :: 0 :: 85 :: 21 :: 6 :: 16 :: 223 :: 160 :: 0 :: 38 :: 21 :: 4 :: 4 :: lX5_workOut_3
def lX5_workOut_1 : List Nat := 161 :: 0 :: 58 :: 21 :: 4 :: 42 :: 180 :: 0 :: 26 :: 190 :: 162 :: 0 :: 130 :: 42 :: 180 :: 0 :: 26 :: 21 :: 4 :: 21 :: 6 :: 155 :: 0 :: 8 :: 21 :: 6 :: 167 :: 0 :: 25 :: 21 :: 6 :: 2 :: 160 :: 0 :: 7 :: lX5_workOut_2
def lX5_workOut_0 : List Nat := 3 :: 54 :: 4 :: 3 :: 54 :: 5 :: 21 :: 5 :: 42 :: 180 :: 0 :: 16 :: 190 :: 162 :: 0 :: 162 :: 42 :: 180 :: 0 :: 16 :: 21 :: 5 :: 46 :: 54 :: 6 :: 21 :: 6 :: 16 :: 253 :: lX5_workOut_1
theorem bX5_workOut_0 : (dz_l cX5_workOut).drop 0 = lX5_workOut_0 := by decide +kernel
theorem bX5_workOut_1 : (dz_l cX5_workOut).drop 29 = lX5_workOut_1 := dz_dr (n := 29) bX5_workOut_0 rfl rfl
theorem bX5_workOut_2 : (dz_l cX5_workOut).drop 64 = lX5_workOut_2 := dz_dr (n := 35) bX5_workOut_1 rfl rfl
theorem bX5_workOut_3 : (dz_l cX5_workOut).drop 97 = lX5_workOut_3 := dz_dr (n := 33) bX5_workOut_2 rfl rfl
theorem bX5_workOut_4 : (dz_l cX5_workOut).drop 125 = lX5_workOut_4 := dz_dr (n := 28) bX5_workOut_3 rfl rfl
theorem bX5_workOut_5 : (dz_l cX5_workOut).drop 155 = lX5_workOut_5 := dz_dr (n := 30) bX5_workOut_4 rfl rfl
def lX5_join_3 : List Nat := 3 :: 172 :: 27 :: 154 :: 0 :: 7 :: 28 :: 153 :: 0 :: 7 :: 4 :: 167 :: 0 :: 4 :: 3 :: 172 :: 3 :: 172 :: []
def lX5_join_2 : List Nat := 167 :: 0 :: 4 :: 3 :: 172 :: 27 :: 28 :: 164 :: 0 :: 7 :: 4 :: 167 :: 0 :: 4 :: 3 :: 172 :: 27 :: 153 :: 0 :: 11 :: 28 :: 153 :: 0 :: 7 :: 4 :: 167 :: 0 :: 4 :: lX5_join_3
def lX5_join_1 : List Nat := 167 :: 0 :: 6 :: 27 :: 28 :: 108 :: 172 :: 27 :: 28 :: 162 :: 0 :: 7 :: 4 :: 167 :: 0 :: 4 :: 3 :: 172 :: 27 :: 28 :: 160 :: 0 :: 7 :: 4 :: lX5_join_2
def lX5_join_0 : List Nat := 26 :: 171 :: 0 :: 0 :: 0 :: 0 :: 0 :: 168 :: 0 :: 0 :: 0 :: 9 :: 0 :: 0 :: 0 :: 38 :: 0 :: 0 :: 0 :: 140 :: 0 :: 0 :: 0 :: 42 :: 0 :: 0 :: 0 :: 91 :: 0 :: 0 :: 0 :: 43 :: 0 :: 0 :: 0 :: 83 :: 0 :: 0 :: 0 :: 45 :: 0 :: 0 :: 0 :: 87 :: 0 :: 0 :: 0 :: 47 :: 0 :: 0 :: 0 :: 95 :: 0 :: 0 :: 0 :: 60 :: 0 :: 0 :: 0 :: 107 :: 0 :: 0 :: 0 :: 61 :: 0 :: 0 :: 0 :: 118 :: 0 :: 0 :: 0 :: 62 :: 0 :: 0 :: 0 :: 129 :: 0 :: 0 :: 0 :: 124 :: 0 :: 0 :: 0 :: 154 :: 27 :: 28 :: 96 :: 172 :: 27 :: 28 :: 100 :: 172 :: 27 :: 28 :: 104 :: 172 :: 28 :: 154 :: 0 :: 7 :: 3 :: lX5_join_1
theorem bX5_join_0 : (dz_l cX5_join).drop 0 = lX5_join_0 := by decide +kernel
theorem bX5_join_1 : (dz_l cX5_join).drop 101 = lX5_join_1 := dz_dr (n := 101) bX5_join_0 rfl rfl
theorem bX5_join_2 : (dz_l cX5_join).drop 125 = lX5_join_2 := dz_dr (n := 24) bX5_join_1 rfl rfl
theorem bX5_join_3 : (dz_l cX5_join).drop 153 = lX5_join_3 := dz_dr (n := 28) bX5_join_2 rfl rfl
def lX6_init_0 : List Nat := 42 :: 183 :: 0 :: 3 :: 42 :: 7 :: 188 :: 10 :: 181 :: 0 :: 9 :: 42 :: 3 :: 181 :: 0 :: 15 :: 42 :: 3 :: 181 :: 0 :: 19 :: 177 :: []
theorem bX6_init_0 : (dz_l cX6_init).drop 0 = lX6_init_0 := by decide +kernel
def lX6_countTaken_1 : List Nat := 43 :: 182 :: 0 :: 30 :: 132 :: 3 :: 1 :: 167 :: 255 :: 230 :: 28 :: 172 :: []
def lX6_countTaken_0 : List Nat := 3 :: 61 :: 42 :: 43 :: 182 :: 0 :: 22 :: 3 :: 62 :: 29 :: 17 :: 39 :: 16 :: 162 :: 0 :: 25 :: 42 :: 43 :: 182 :: 0 :: 26 :: 155 :: 0 :: 6 :: 132 :: 2 :: 1 :: 42 :: lX6_countTaken_1
theorem bX6_countTaken_0 : (dz_l cX6_countTaken).drop 0 = lX6_countTaken_0 := by decide +kernel
theorem bX6_countTaken_1 : (dz_l cX6_countTaken).drop 28 = lX6_countTaken_1 := dz_dr (n := 28) bX6_countTaken_0 rfl rfl
def lX6_fairest_1 : List Nat := 21 :: 5 :: 29 :: 164 :: 0 :: 9 :: 21 :: 4 :: 61 :: 21 :: 5 :: 62 :: 42 :: 43 :: 182 :: 0 :: 30 :: 132 :: 4 :: 1 :: 167 :: 255 :: 221 :: 28 :: 172 :: []
def lX6_fairest_0 : List Nat := 2 :: 61 :: 2 :: 62 :: 42 :: 43 :: 182 :: 0 :: 22 :: 3 :: 54 :: 4 :: 21 :: 4 :: 17 :: 39 :: 16 :: 162 :: 0 :: 33 :: 42 :: 43 :: 182 :: 0 :: 26 :: 54 :: 5 :: lX6_fairest_1
theorem bX6_fairest_0 : (dz_l cX6_fairest).drop 0 = lX6_fairest_0 := by decide +kernel
theorem bX6_fairest_1 : (dz_l cX6_fairest).drop 27 = lX6_fairest_1 := dz_dr (n := 27) bX6_fairest_0 rfl rfl
def lX6_nearest_2 : List Nat := 132 :: 4 :: 1 :: 167 :: 255 :: 209 :: 28 :: 172 :: []
def lX6_nearest_1 : List Nat := 42 :: 43 :: 182 :: 0 :: 33 :: 54 :: 5 :: 28 :: 155 :: 0 :: 9 :: 21 :: 5 :: 29 :: 162 :: 0 :: 9 :: 21 :: 4 :: 61 :: 21 :: 5 :: 62 :: 42 :: 43 :: 182 :: 0 :: 30 :: lX6_nearest_2
def lX6_nearest_0 : List Nat := 2 :: 61 :: 3 :: 62 :: 42 :: 43 :: 182 :: 0 :: 22 :: 3 :: 54 :: 4 :: 21 :: 4 :: 17 :: 39 :: 16 :: 162 :: 0 :: 45 :: 42 :: 43 :: 182 :: 0 :: 26 :: 155 :: 0 :: 26 :: lX6_nearest_1
theorem bX6_nearest_0 : (dz_l cX6_nearest).drop 0 = lX6_nearest_0 := by decide +kernel
theorem bX6_nearest_1 : (dz_l cX6_nearest).drop 28 = lX6_nearest_1 := dz_dr (n := 28) bX6_nearest_0 rfl rfl
theorem bX6_nearest_2 : (dz_l cX6_nearest).drop 56 = lX6_nearest_2 := dz_dr (n := 28) bX6_nearest_1 rfl rfl
def lX6_start_1 : List Nat := 42 :: 89 :: 180 :: 0 :: 19 :: 16 :: 9 :: 43 :: 180 :: 0 :: 36 :: 4 :: 28 :: 184 :: 0 :: 41 :: 46 :: 104 :: 96 :: 181 :: 0 :: 19 :: 132 :: 2 :: 1 :: 167 :: 255 :: 219 :: 177 :: []
def lX6_start_0 : List Nat := 42 :: 3 :: 181 :: 0 :: 15 :: 42 :: 3 :: 181 :: 0 :: 19 :: 3 :: 61 :: 28 :: 7 :: 162 :: 0 :: 38 :: 42 :: 180 :: 0 :: 9 :: 28 :: 3 :: 79 :: lX6_start_1
theorem bX6_start_0 : (dz_l cX6_start).drop 0 = lX6_start_0 := by decide +kernel
theorem bX6_start_1 : (dz_l cX6_start).drop 24 = lX6_start_1 := dz_dr (n := 24) bX6_start_0 rfl rfl
def lX6_step_4 : List Nat := 96 :: 181 :: 0 :: 19 :: 132 :: 2 :: 255 :: 167 :: 255 :: 149 :: 177 :: []
def lX6_step_3 : List Nat := 3 :: 79 :: 42 :: 89 :: 180 :: 0 :: 15 :: 16 :: 9 :: 29 :: 104 :: 100 :: 181 :: 0 :: 15 :: 42 :: 89 :: 180 :: 0 :: 19 :: 16 :: 9 :: 21 :: 4 :: 104 :: lX6_step_4
def lX6_step_2 : List Nat := 42 :: 89 :: 180 :: 0 :: 15 :: 29 :: 96 :: 181 :: 0 :: 15 :: 42 :: 89 :: 180 :: 0 :: 19 :: 21 :: 4 :: 100 :: 181 :: 0 :: 19 :: 177 :: 42 :: 180 :: 0 :: 9 :: 28 :: lX6_step_3
def lX6_step_1 : List Nat := 46 :: 54 :: 4 :: 42 :: 180 :: 0 :: 9 :: 28 :: 46 :: 16 :: 9 :: 162 :: 0 :: 35 :: 42 :: 180 :: 0 :: 9 :: 28 :: 92 :: 46 :: 4 :: 96 :: 79 :: lX6_step_2
def lX6_step_0 : List Nat := 6 :: 61 :: 28 :: 155 :: 0 :: 109 :: 43 :: 180 :: 0 :: 36 :: 3 :: 28 :: 184 :: 0 :: 41 :: 46 :: 62 :: 43 :: 180 :: 0 :: 36 :: 4 :: 28 :: 184 :: 0 :: 41 :: lX6_step_1
theorem bX6_step_0 : (dz_l cX6_step).drop 0 = lX6_step_0 := by decide +kernel
theorem bX6_step_1 : (dz_l cX6_step).drop 26 = lX6_step_1 := dz_dr (n := 26) bX6_step_0 rfl rfl
theorem bX6_step_2 : (dz_l cX6_step).drop 50 = lX6_step_2 := dz_dr (n := 24) bX6_step_1 rfl rfl
theorem bX6_step_3 : (dz_l cX6_step).drop 77 = lX6_step_3 := dz_dr (n := 27) bX6_step_2 rfl rfl
theorem bX6_step_4 : (dz_l cX6_step).drop 102 = lX6_step_4 := dz_dr (n := 25) bX6_step_3 rfl rfl
def lX6_spare_0 : List Nat := 42 :: 180 :: 0 :: 15 :: 43 :: 180 :: 0 :: 45 :: 3 :: 46 :: 100 :: 42 :: 180 :: 0 :: 19 :: 43 :: 180 :: 0 :: 45 :: 4 :: 46 :: 100 :: 184 :: 0 :: 48 :: 172 :: []
theorem bX6_spare_0 : (dz_l cX6_spare).drop 0 = lX6_spare_0 := by decide +kernel
def lX6_distanceTo_1 : List Nat := 100 :: 184 :: 0 :: 56 :: 96 :: 61 :: 132 :: 3 :: 1 :: 167 :: 255 :: 229 :: 28 :: 172 :: []
def lX6_distanceTo_0 : List Nat := 3 :: 61 :: 3 :: 62 :: 29 :: 7 :: 162 :: 0 :: 28 :: 28 :: 42 :: 180 :: 0 :: 9 :: 29 :: 46 :: 43 :: 180 :: 0 :: 53 :: 29 :: 46 :: lX6_distanceTo_1
theorem bX6_distanceTo_0 : (dz_l cX6_distanceTo).drop 0 = lX6_distanceTo_0 := by decide +kernel
theorem bX6_distanceTo_1 : (dz_l cX6_distanceTo).drop 22 = lX6_distanceTo_1 := dz_dr (n := 22) bX6_distanceTo_0 rfl rfl
def lX7_init_4 : List Nat := 60 :: 27 :: 8 :: 162 :: 0 :: 22 :: 42 :: 180 :: 0 :: 53 :: 27 :: 187 :: 0 :: 51 :: 89 :: 183 :: 0 :: 66 :: 83 :: 132 :: 1 :: 1 :: 167 :: 255 :: 235 :: 177 :: []
def lX7_init_3 : List Nat := 181 :: 0 :: 61 :: 3 :: 60 :: 27 :: 7 :: 162 :: 0 :: 22 :: 42 :: 180 :: 0 :: 47 :: 27 :: 187 :: 0 :: 45 :: 89 :: 183 :: 0 :: 65 :: 83 :: 132 :: 1 :: 1 :: 167 :: 255 :: 235 :: 3 :: lX7_init_4
def lX7_init_2 : List Nat := 180 :: 0 :: 36 :: 180 :: 0 :: 40 :: 181 :: 0 :: 44 :: 42 :: 7 :: 189 :: 0 :: 45 :: 181 :: 0 :: 47 :: 42 :: 8 :: 189 :: 0 :: 51 :: 181 :: 0 :: 53 :: 42 :: 16 :: 60 :: 188 :: 10 :: 181 :: 0 :: 57 :: 42 :: 3 :: lX7_init_3
def lX7_init_1 : List Nat := 181 :: 0 :: 19 :: 42 :: 3 :: 181 :: 0 :: 22 :: 42 :: 187 :: 0 :: 26 :: 89 :: 183 :: 0 :: 28 :: 181 :: 0 :: 29 :: 42 :: 187 :: 0 :: 33 :: 89 :: 183 :: 0 :: 35 :: 181 :: 0 :: 36 :: 42 :: 42 :: lX7_init_2
def lX7_init_0 : List Nat := 42 :: 183 :: 0 :: 1 :: 42 :: 187 :: 0 :: 7 :: 89 :: 183 :: 0 :: 9 :: 181 :: 0 :: 10 :: 42 :: 187 :: 0 :: 7 :: 89 :: 183 :: 0 :: 9 :: 181 :: 0 :: 16 :: 42 :: 187 :: 0 :: 7 :: 89 :: 183 :: 0 :: 9 :: lX7_init_1
theorem bX7_init_0 : (dz_l cX7_init).drop 0 = lX7_init_0 := by decide +kernel
theorem bX7_init_1 : (dz_l cX7_init).drop 34 = lX7_init_1 := dz_dr (n := 34) bX7_init_0 rfl rfl
theorem bX7_init_2 : (dz_l cX7_init).drop 66 = lX7_init_2 := dz_dr (n := 32) bX7_init_1 rfl rfl
theorem bX7_init_3 : (dz_l cX7_init).drop 101 = lX7_init_3 := dz_dr (n := 35) bX7_init_2 rfl rfl
theorem bX7_init_4 : (dz_l cX7_init).drop 131 = lX7_init_4 := dz_dr (n := 30) bX7_init_3 rfl rfl
def lX7_friend_1 : List Nat := 16 :: 8 :: 161 :: 0 :: 6 :: 18 :: 82 :: 172 :: 42 :: 180 :: 0 :: 10 :: 27 :: 28 :: 29 :: 182 :: 0 :: 83 :: 42 :: 180 :: 0 :: 10 :: 180 :: 0 :: 79 :: 4 :: 100 :: 172 :: []
def lX7_friend_0 : List Nat := 27 :: 184 :: 0 :: 67 :: 153 :: 0 :: 20 :: 28 :: 184 :: 0 :: 71 :: 153 :: 0 :: 13 :: 29 :: 3 :: 16 :: 99 :: 184 :: 0 :: 74 :: 154 :: 0 :: 6 :: 18 :: 78 :: 172 :: 42 :: 180 :: 0 :: 10 :: 180 :: 0 :: 79 :: lX7_friend_1
theorem bX7_friend_0 : (dz_l cX7_friend).drop 0 = lX7_friend_0 := by decide +kernel
theorem bX7_friend_1 : (dz_l cX7_friend).drop 34 = lX7_friend_1 := dz_dr (n := 34) bX7_friend_0 rfl rfl
def lX7_told_3 : List Nat := 172 :: 42 :: 180 :: 0 :: 10 :: 180 :: 0 :: 90 :: 27 :: 46 :: 42 :: 180 :: 0 :: 10 :: 180 :: 0 :: 96 :: 27 :: 46 :: 184 :: 0 :: 115 :: 172 :: 18 :: 78 :: 172 :: []
def lX7_told_2 : List Nat := 42 :: 180 :: 0 :: 10 :: 180 :: 0 :: 102 :: 27 :: 46 :: 172 :: 42 :: 180 :: 0 :: 10 :: 27 :: 182 :: 0 :: 105 :: 172 :: 42 :: 180 :: 0 :: 10 :: 27 :: 182 :: 0 :: 109 :: 184 :: 0 :: 112 :: lX7_told_3
def lX7_told_1 : List Nat := 180 :: 0 :: 93 :: 27 :: 46 :: 172 :: 42 :: 180 :: 0 :: 10 :: 180 :: 0 :: 96 :: 27 :: 46 :: 172 :: 42 :: 180 :: 0 :: 10 :: 180 :: 0 :: 99 :: 27 :: 46 :: 172 :: lX7_told_2
def lX7_told_0 : List Nat := 42 :: 180 :: 0 :: 10 :: 27 :: 182 :: 0 :: 87 :: 154 :: 0 :: 6 :: 18 :: 78 :: 172 :: 28 :: 170 :: 0 :: 0 :: 0 :: 138 :: 0 :: 0 :: 0 :: 0 :: 0 :: 0 :: 0 :: 7 :: 0 :: 0 :: 0 :: 45 :: 0 :: 0 :: 0 :: 55 :: 0 :: 0 :: 0 :: 65 :: 0 :: 0 :: 0 :: 75 :: 0 :: 0 :: 0 :: 85 :: 0 :: 0 :: 0 :: 95 :: 0 :: 0 :: 0 :: 104 :: 0 :: 0 :: 0 :: 116 :: 42 :: 180 :: 0 :: 10 :: 180 :: 0 :: 90 :: 27 :: 46 :: 172 :: 42 :: 180 :: 0 :: 10 :: lX7_told_1
theorem bX7_told_0 : (dz_l cX7_told).drop 0 = lX7_told_0 := by decide +kernel
theorem bX7_told_1 : (dz_l cX7_told).drop 74 = lX7_told_1 := dz_dr (n := 74) bX7_told_0 rfl rfl
theorem bX7_told_2 : (dz_l cX7_told).drop 100 = lX7_told_2 := dz_dr (n := 26) bX7_told_1 rfl rfl
theorem bX7_told_3 : (dz_l cX7_told).drop 130 = lX7_told_3 := dz_dr (n := 30) bX7_told_2 rfl rfl
def lX7_as_1 : List Nat := 184 :: 0 :: 119 :: 153 :: 0 :: 15 :: 42 :: 180 :: 0 :: 10 :: 180 :: 0 :: 96 :: 27 :: 46 :: 167 :: 0 :: 5 :: 18 :: 123 :: 172 :: []
def lX7_as_0 : List Nat := 42 :: 180 :: 0 :: 10 :: 27 :: 182 :: 0 :: 87 :: 153 :: 0 :: 10 :: 28 :: 184 :: 0 :: 67 :: 154 :: 0 :: 6 :: 18 :: 78 :: 172 :: 42 :: 180 :: 0 :: 10 :: 180 :: 0 :: 90 :: 27 :: 46 :: 28 :: lX7_as_1
theorem bX7_as_0 : (dz_l cX7_as).drop 0 = lX7_as_0 := by decide +kernel
theorem bX7_as_1 : (dz_l cX7_as).drop 31 = lX7_as_1 := dz_dr (n := 31) bX7_as_0 rfl rfl
def lX7_turns_1 : List Nat := 42 :: 180 :: 0 :: 10 :: 180 :: 0 :: 90 :: 27 :: 28 :: 79 :: 29 :: 172 :: []
def lX7_turns_0 : List Nat := 42 :: 180 :: 0 :: 10 :: 27 :: 182 :: 0 :: 87 :: 153 :: 0 :: 10 :: 28 :: 184 :: 0 :: 67 :: 154 :: 0 :: 6 :: 18 :: 78 :: 172 :: 42 :: 180 :: 0 :: 10 :: 180 :: 0 :: 90 :: 27 :: 46 :: 62 :: lX7_turns_1
theorem bX7_turns_0 : (dz_l cX7_turns).drop 0 = lX7_turns_0 := by decide +kernel
theorem bX7_turns_1 : (dz_l cX7_turns).drop 31 = lX7_turns_1 := dz_dr (n := 31) bX7_turns_0 rfl rfl
def lX7_set_3 : List Nat := 172 :: 18 :: 78 :: 172 :: []
def lX7_set_2 : List Nat := 16 :: 99 :: 184 :: 0 :: 74 :: 153 :: 0 :: 27 :: 42 :: 180 :: 0 :: 10 :: 180 :: 0 :: 96 :: 27 :: 46 :: 54 :: 4 :: 42 :: 180 :: 0 :: 10 :: 180 :: 0 :: 96 :: 27 :: 29 :: 79 :: 21 :: 4 :: lX7_set_3
def lX7_set_1 : List Nat := 27 :: 46 :: 54 :: 4 :: 42 :: 180 :: 0 :: 10 :: 180 :: 0 :: 93 :: 27 :: 29 :: 79 :: 21 :: 4 :: 172 :: 28 :: 5 :: 160 :: 0 :: 37 :: 29 :: 3 :: lX7_set_2
def lX7_set_0 : List Nat := 42 :: 180 :: 0 :: 10 :: 27 :: 182 :: 0 :: 87 :: 154 :: 0 :: 6 :: 18 :: 78 :: 172 :: 28 :: 4 :: 160 :: 0 :: 34 :: 29 :: 184 :: 0 :: 71 :: 153 :: 0 :: 27 :: 42 :: 180 :: 0 :: 10 :: 180 :: 0 :: 93 :: lX7_set_1
theorem bX7_set_0 : (dz_l cX7_set).drop 0 = lX7_set_0 := by decide +kernel
theorem bX7_set_1 : (dz_l cX7_set).drop 33 = lX7_set_1 := dz_dr (n := 33) bX7_set_0 rfl rfl
theorem bX7_set_2 : (dz_l cX7_set).drop 57 = lX7_set_2 := dz_dr (n := 24) bX7_set_1 rfl rfl
theorem bX7_set_3 : (dz_l cX7_set).drop 88 = lX7_set_3 := dz_dr (n := 31) bX7_set_2 rfl rfl
def lX7_stand_1 : List Nat := 42 :: 180 :: 0 :: 10 :: 180 :: 0 :: 127 :: 27 :: 28 :: 79 :: 29 :: 172 :: []
def lX7_stand_0 : List Nat := 27 :: 184 :: 0 :: 124 :: 153 :: 0 :: 13 :: 28 :: 3 :: 16 :: 9 :: 184 :: 0 :: 74 :: 154 :: 0 :: 6 :: 18 :: 78 :: 172 :: 42 :: 180 :: 0 :: 10 :: 180 :: 0 :: 127 :: 27 :: 46 :: 62 :: lX7_stand_1
theorem bX7_stand_0 : (dz_l cX7_stand).drop 0 = lX7_stand_0 := by decide +kernel
theorem bX7_stand_1 : (dz_l cX7_stand).drop 30 = lX7_stand_1 := dz_dr (n := 30) bX7_stand_0 rfl rfl
def lX7_care_1 : List Nat := 27 :: 28 :: 184 :: 0 :: 133 :: 46 :: 54 :: 4 :: 42 :: 180 :: 0 :: 10 :: 180 :: 0 :: 130 :: 27 :: 28 :: 184 :: 0 :: 133 :: 29 :: 79 :: 21 :: 4 :: 172 :: []
def lX7_care_0 : List Nat := 27 :: 184 :: 0 :: 71 :: 153 :: 0 :: 20 :: 28 :: 184 :: 0 :: 124 :: 153 :: 0 :: 13 :: 29 :: 3 :: 16 :: 9 :: 184 :: 0 :: 74 :: 154 :: 0 :: 6 :: 18 :: 78 :: 172 :: 42 :: 180 :: 0 :: 10 :: 180 :: 0 :: 130 :: lX7_care_1
theorem bX7_care_0 : (dz_l cX7_care).drop 0 = lX7_care_0 := by decide +kernel
theorem bX7_care_1 : (dz_l cX7_care).drop 34 = lX7_care_1 := dz_dr (n := 34) bX7_care_0 rfl rfl
def lX7_honour_1 : List Nat := 42 :: 180 :: 0 :: 10 :: 180 :: 0 :: 136 :: 27 :: 28 :: 79 :: 29 :: 172 :: []
def lX7_honour_0 : List Nat := 27 :: 184 :: 0 :: 71 :: 153 :: 0 :: 14 :: 28 :: 3 :: 17 :: 1 :: 144 :: 184 :: 0 :: 74 :: 154 :: 0 :: 6 :: 18 :: 78 :: 172 :: 42 :: 180 :: 0 :: 10 :: 180 :: 0 :: 136 :: 27 :: 46 :: 62 :: lX7_honour_1
theorem bX7_honour_0 : (dz_l cX7_honour).drop 0 = lX7_honour_0 := by decide +kernel
theorem bX7_honour_1 : (dz_l cX7_honour).drop 31 = lX7_honour_1 := dz_dr (n := 31) bX7_honour_0 rfl rfl
def lX7_rule_3 : List Nat := 180 :: 0 :: 10 :: 28 :: 181 :: 0 :: 145 :: 29 :: 172 :: 18 :: 78 :: 172 :: []
def lX7_rule_2 : List Nat := 181 :: 0 :: 142 :: 29 :: 172 :: 27 :: 5 :: 160 :: 0 :: 31 :: 28 :: 3 :: 16 :: 100 :: 184 :: 0 :: 74 :: 153 :: 0 :: 21 :: 42 :: 180 :: 0 :: 10 :: 180 :: 0 :: 145 :: 62 :: 42 :: lX7_rule_3
def lX7_rule_1 : List Nat := 172 :: 27 :: 4 :: 160 :: 0 :: 31 :: 28 :: 4 :: 16 :: 99 :: 184 :: 0 :: 74 :: 153 :: 0 :: 21 :: 42 :: 180 :: 0 :: 10 :: 180 :: 0 :: 142 :: 62 :: 42 :: 180 :: 0 :: 10 :: 28 :: lX7_rule_2
def lX7_rule_0 : List Nat := 27 :: 154 :: 0 :: 31 :: 28 :: 3 :: 16 :: 99 :: 184 :: 0 :: 74 :: 153 :: 0 :: 21 :: 42 :: 180 :: 0 :: 10 :: 180 :: 0 :: 139 :: 62 :: 42 :: 180 :: 0 :: 10 :: 28 :: 181 :: 0 :: 139 :: 29 :: lX7_rule_1
theorem bX7_rule_0 : (dz_l cX7_rule).drop 0 = lX7_rule_0 := by decide +kernel
theorem bX7_rule_1 : (dz_l cX7_rule).drop 31 = lX7_rule_1 := dz_dr (n := 31) bX7_rule_0 rfl rfl
theorem bX7_rule_2 : (dz_l cX7_rule).drop 60 = lX7_rule_2 := dz_dr (n := 29) bX7_rule_1 rfl rfl
theorem bX7_rule_3 : (dz_l cX7_rule).drop 89 = lX7_rule_3 := dz_dr (n := 29) bX7_rule_2 rfl rfl
def lX7_deal_2 : List Nat := 42 :: 180 :: 0 :: 10 :: 182 :: 0 :: 153 :: 16 :: 100 :: 112 :: 54 :: 6 :: 42 :: 180 :: 0 :: 10 :: 21 :: 4 :: 21 :: 5 :: 21 :: 6 :: 182 :: 0 :: 83 :: 132 :: 3 :: 1 :: 167 :: 255 :: 200 :: 28 :: 172 :: []
def lX7_deal_1 : List Nat := 62 :: 29 :: 28 :: 162 :: 0 :: 57 :: 42 :: 180 :: 0 :: 10 :: 182 :: 0 :: 153 :: 16 :: 6 :: 112 :: 54 :: 4 :: 42 :: 180 :: 0 :: 10 :: 182 :: 0 :: 153 :: 5 :: 112 :: 54 :: 5 :: lX7_deal_2
def lX7_deal_0 : List Nat := 27 :: 4 :: 16 :: 8 :: 184 :: 0 :: 74 :: 154 :: 0 :: 6 :: 18 :: 78 :: 172 :: 27 :: 16 :: 8 :: 42 :: 180 :: 0 :: 10 :: 180 :: 0 :: 79 :: 100 :: 184 :: 0 :: 148 :: 61 :: 3 :: lX7_deal_1
theorem bX7_deal_0 : (dz_l cX7_deal).drop 0 = lX7_deal_0 := by decide +kernel
theorem bX7_deal_1 : (dz_l cX7_deal).drop 29 = lX7_deal_1 := dz_dr (n := 29) bX7_deal_0 rfl rfl
theorem bX7_deal_2 : (dz_l cX7_deal).drop 58 = lX7_deal_2 := dz_dr (n := 29) bX7_deal_1 rfl rfl
def lX7_seed_0 : List Nat := 42 :: 180 :: 0 :: 10 :: 180 :: 0 :: 157 :: 61 :: 42 :: 180 :: 0 :: 10 :: 27 :: 181 :: 0 :: 157 :: 28 :: 172 :: []
theorem bX7_seed_0 : (dz_l cX7_seed).drop 0 = lX7_seed_0 := by decide +kernel
def lX7_posts_1 : List Nat := 2 :: 182 :: 0 :: 163 :: 172 :: []
def lX7_posts_0 : List Nat := 27 :: 4 :: 16 :: 100 :: 184 :: 0 :: 74 :: 154 :: 0 :: 6 :: 18 :: 78 :: 172 :: 42 :: 180 :: 0 :: 10 :: 27 :: 17 :: 39 :: 15 :: 42 :: 180 :: 0 :: 10 :: 180 :: 0 :: 160 :: 100 :: 184 :: 0 :: 148 :: lX7_posts_1
theorem bX7_posts_0 : (dz_l cX7_posts).drop 0 = lX7_posts_0 := by decide +kernel
theorem bX7_posts_1 : (dz_l cX7_posts).drop 32 = lX7_posts_1 := dz_dr (n := 32) bX7_posts_0 rfl rfl
def lX7_table_2 : List Nat := 182 :: 0 :: 179 :: 172 :: 42 :: 180 :: 0 :: 10 :: 42 :: 180 :: 0 :: 10 :: 180 :: 0 :: 102 :: 182 :: 0 :: 179 :: 172 :: 18 :: 78 :: 172 :: []
def lX7_table_1 : List Nat := 167 :: 0 :: 4 :: 3 :: 172 :: 42 :: 180 :: 0 :: 10 :: 182 :: 0 :: 173 :: 172 :: 42 :: 180 :: 0 :: 10 :: 180 :: 0 :: 176 :: 172 :: 42 :: 180 :: 0 :: 10 :: 42 :: 180 :: 0 :: 10 :: 180 :: 0 :: 99 :: lX7_table_2
def lX7_table_0 : List Nat := 27 :: 170 :: 0 :: 0 :: 0 :: 0 :: 0 :: 123 :: 0 :: 0 :: 0 :: 0 :: 0 :: 0 :: 0 :: 6 :: 0 :: 0 :: 0 :: 43 :: 0 :: 0 :: 0 :: 52 :: 0 :: 0 :: 0 :: 61 :: 0 :: 0 :: 0 :: 77 :: 0 :: 0 :: 0 :: 85 :: 0 :: 0 :: 0 :: 93 :: 0 :: 0 :: 0 :: 108 :: 42 :: 180 :: 0 :: 10 :: 3 :: 182 :: 0 :: 166 :: 172 :: 42 :: 180 :: 0 :: 10 :: 4 :: 182 :: 0 :: 166 :: 172 :: 42 :: 180 :: 0 :: 10 :: 182 :: 0 :: 169 :: 153 :: 0 :: 7 :: 4 :: lX7_table_1
theorem bX7_table_0 : (dz_l cX7_table).drop 0 = lX7_table_0 := by decide +kernel
theorem bX7_table_1 : (dz_l cX7_table).drop 73 = lX7_table_1 := dz_dr (n := 73) bX7_table_0 rfl rfl
theorem bX7_table_2 : (dz_l cX7_table).drop 105 = lX7_table_2 := dz_dr (n := 32) bX7_table_1 rfl rfl
def lX7_taken_0 : List Nat := 42 :: 180 :: 0 :: 29 :: 42 :: 180 :: 0 :: 10 :: 182 :: 0 :: 183 :: 172 :: []
theorem bX7_taken_0 : (dz_l cX7_taken).drop 0 = lX7_taken_0 := by decide +kernel
def lX7_terms_1 : List Nat := 182 :: 0 :: 190 :: 184 :: 0 :: 112 :: 172 :: 18 :: 78 :: 172 :: []
def lX7_terms_0 : List Nat := 27 :: 154 :: 0 :: 18 :: 42 :: 180 :: 0 :: 29 :: 42 :: 180 :: 0 :: 10 :: 182 :: 0 :: 187 :: 184 :: 0 :: 112 :: 172 :: 27 :: 4 :: 160 :: 0 :: 18 :: 42 :: 180 :: 0 :: 29 :: 42 :: 180 :: 0 :: 10 :: lX7_terms_1
theorem bX7_terms_0 : (dz_l cX7_terms).drop 0 = lX7_terms_0 := by decide +kernel
theorem bX7_terms_1 : (dz_l cX7_terms).drop 32 = lX7_terms_1 := dz_dr (n := 32) bX7_terms_0 rfl rfl
def lX7_behind_2 : List Nat := 42 :: 180 :: 0 :: 16 :: 182 :: 0 :: 169 :: 153 :: 0 :: 7 :: 4 :: 167 :: 0 :: 4 :: 3 :: 172 :: 42 :: 180 :: 0 :: 16 :: 180 :: 0 :: 176 :: 172 :: []
def lX7_behind_1 : List Nat := 182 :: 0 :: 193 :: 42 :: 180 :: 0 :: 16 :: 27 :: 2 :: 182 :: 0 :: 163 :: 87 :: 28 :: 170 :: 0 :: 0 :: 0 :: 0 :: 0 :: 0 :: 60 :: 0 :: 0 :: 0 :: 0 :: 0 :: 0 :: 0 :: 2 :: 0 :: 0 :: 0 :: 28 :: 0 :: 0 :: 0 :: 36 :: 0 :: 0 :: 0 :: 44 :: 42 :: 180 :: 0 :: 16 :: 180 :: 0 :: 139 :: 172 :: 42 :: 180 :: 0 :: 16 :: 182 :: 0 :: 173 :: 172 :: lX7_behind_2
def lX7_behind_0 : List Nat := 27 :: 3 :: 16 :: 100 :: 184 :: 0 :: 74 :: 153 :: 0 :: 12 :: 28 :: 3 :: 6 :: 184 :: 0 :: 74 :: 154 :: 0 :: 6 :: 18 :: 78 :: 172 :: 42 :: 180 :: 0 :: 16 :: 42 :: 180 :: 0 :: 10 :: lX7_behind_1
theorem bX7_behind_0 : (dz_l cX7_behind).drop 0 = lX7_behind_0 := by decide +kernel
theorem bX7_behind_1 : (dz_l cX7_behind).drop 30 = lX7_behind_1 := dz_dr (n := 30) bX7_behind_0 rfl rfl
theorem bX7_behind_2 : (dz_l cX7_behind).drop 88 = lX7_behind_2 := dz_dr (n := 58) bX7_behind_1 rfl rfl
def lX7_ends_2 : List Nat := 154 :: 0 :: 7 :: 28 :: 167 :: 0 :: 4 :: 5 :: 172 :: 42 :: 180 :: 0 :: 16 :: 4 :: 2 :: 182 :: 0 :: 163 :: 87 :: 132 :: 2 :: 1 :: 167 :: 255 :: 196 :: 18 :: 200 :: 172 :: []
def lX7_ends_1 : List Nat := 163 :: 0 :: 59 :: 42 :: 180 :: 0 :: 16 :: 182 :: 0 :: 169 :: 153 :: 0 :: 13 :: 27 :: 154 :: 0 :: 7 :: 28 :: 167 :: 0 :: 4 :: 4 :: 172 :: 42 :: 180 :: 0 :: 16 :: 182 :: 0 :: 197 :: 153 :: 0 :: 13 :: 27 :: lX7_ends_2
def lX7_ends_0 : List Nat := 27 :: 3 :: 4 :: 184 :: 0 :: 74 :: 154 :: 0 :: 6 :: 18 :: 78 :: 172 :: 42 :: 180 :: 0 :: 16 :: 42 :: 180 :: 0 :: 10 :: 182 :: 0 :: 193 :: 3 :: 61 :: 28 :: 17 :: 0 :: 200 :: lX7_ends_1
theorem bX7_ends_0 : (dz_l cX7_ends).drop 0 = lX7_ends_0 := by decide +kernel
theorem bX7_ends_1 : (dz_l cX7_ends).drop 29 = lX7_ends_1 := dz_dr (n := 29) bX7_ends_0 rfl rfl
theorem bX7_ends_2 : (dz_l cX7_ends).drop 63 = lX7_ends_2 := dz_dr (n := 34) bX7_ends_1 rfl rfl
def lX7_held_2 : List Nat := 128 :: 61 :: 132 :: 3 :: 1 :: 167 :: 255 :: 227 :: 28 :: 172 :: []
def lX7_held_1 : List Nat := 3 :: 62 :: 29 :: 42 :: 180 :: 0 :: 10 :: 180 :: 0 :: 79 :: 162 :: 0 :: 24 :: 42 :: 29 :: 27 :: 182 :: 0 :: 201 :: 153 :: 0 :: 9 :: 28 :: 4 :: 29 :: 120 :: lX7_held_2
def lX7_held_0 : List Nat := 27 :: 4 :: 16 :: 60 :: 184 :: 0 :: 74 :: 154 :: 0 :: 6 :: 18 :: 78 :: 172 :: 42 :: 2 :: 27 :: 182 :: 0 :: 201 :: 153 :: 0 :: 5 :: 3 :: 172 :: 3 :: 61 :: lX7_held_1
theorem bX7_held_0 : (dz_l cX7_held).drop 0 = lX7_held_0 := by decide +kernel
theorem bX7_held_1 : (dz_l cX7_held).drop 26 = lX7_held_1 := dz_dr (n := 26) bX7_held_0 rfl rfl
theorem bX7_held_2 : (dz_l cX7_held).drop 52 = lX7_held_2 := dz_dr (n := 26) bX7_held_1 rfl rfl
def lX7_peaceWithout_0 : List Nat := 42 :: 180 :: 0 :: 16 :: 42 :: 180 :: 0 :: 10 :: 182 :: 0 :: 193 :: 42 :: 180 :: 0 :: 16 :: 28 :: 27 :: 182 :: 0 :: 163 :: 87 :: 42 :: 180 :: 0 :: 16 :: 182 :: 0 :: 169 :: 172 :: []
theorem bX7_peaceWithout_0 : (dz_l cX7_peaceWithout).drop 0 = lX7_peaceWithout_0 := by decide +kernel
def lX7_cool_2 : List Nat := 132 :: 2 :: 255 :: 167 :: 255 :: 208 :: 18 :: 200 :: 172 :: []
def lX7_cool_1 : List Nat := 42 :: 180 :: 0 :: 16 :: 28 :: 181 :: 0 :: 139 :: 42 :: 180 :: 0 :: 16 :: 27 :: 2 :: 182 :: 0 :: 163 :: 87 :: 42 :: 180 :: 0 :: 16 :: 182 :: 0 :: 169 :: 153 :: 0 :: 5 :: 28 :: 172 :: lX7_cool_2
def lX7_cool_0 : List Nat := 27 :: 4 :: 16 :: 40 :: 184 :: 0 :: 74 :: 154 :: 0 :: 6 :: 18 :: 78 :: 172 :: 16 :: 99 :: 61 :: 28 :: 155 :: 0 :: 50 :: 42 :: 180 :: 0 :: 16 :: 42 :: 180 :: 0 :: 10 :: 182 :: 0 :: 193 :: lX7_cool_1
theorem bX7_cool_0 : (dz_l cX7_cool).drop 0 = lX7_cool_0 := by decide +kernel
theorem bX7_cool_1 : (dz_l cX7_cool).drop 31 = lX7_cool_1 := dz_dr (n := 31) bX7_cool_0 rfl rfl
theorem bX7_cool_2 : (dz_l cX7_cool).drop 61 = lX7_cool_2 := dz_dr (n := 30) bX7_cool_1 rfl rfl
def lX7_bought_4 : List Nat := 167 :: 0 :: 5 :: 21 :: 4 :: 172 :: []
def lX7_bought_3 : List Nat := 54 :: 6 :: 29 :: 18 :: 200 :: 159 :: 0 :: 10 :: 21 :: 6 :: 21 :: 4 :: 162 :: 0 :: 10 :: 21 :: 5 :: 62 :: 21 :: 6 :: 54 :: 4 :: 132 :: 5 :: 1 :: 167 :: 255 :: 170 :: 28 :: 154 :: 0 :: 7 :: 29 :: lX7_bought_4
def lX7_bought_2 : List Nat := 8 :: 79 :: 42 :: 180 :: 0 :: 16 :: 27 :: 2 :: 182 :: 0 :: 163 :: 87 :: 42 :: 180 :: 0 :: 16 :: 42 :: 180 :: 0 :: 16 :: 180 :: 0 :: 93 :: 21 :: 5 :: 46 :: 182 :: 0 :: 166 :: lX7_bought_3
def lX7_bought_1 : List Nat := 3 :: 54 :: 5 :: 21 :: 5 :: 42 :: 180 :: 0 :: 10 :: 180 :: 0 :: 79 :: 162 :: 0 :: 80 :: 42 :: 180 :: 0 :: 16 :: 42 :: 180 :: 0 :: 10 :: 182 :: 0 :: 193 :: 42 :: 180 :: 0 :: 16 :: 180 :: 0 :: 90 :: 21 :: 5 :: lX7_bought_2
def lX7_bought_0 : List Nat := 27 :: 4 :: 16 :: 60 :: 184 :: 0 :: 74 :: 153 :: 0 :: 12 :: 28 :: 3 :: 4 :: 184 :: 0 :: 74 :: 154 :: 0 :: 6 :: 18 :: 78 :: 172 :: 18 :: 200 :: 62 :: 18 :: 200 :: 54 :: 4 :: lX7_bought_1
theorem bX7_bought_0 : (dz_l cX7_bought).drop 0 = lX7_bought_0 := by decide +kernel
theorem bX7_bought_1 : (dz_l cX7_bought).drop 29 = lX7_bought_1 := dz_dr (n := 29) bX7_bought_0 rfl rfl
theorem bX7_bought_2 : (dz_l cX7_bought).drop 64 = lX7_bought_2 := dz_dr (n := 35) bX7_bought_1 rfl rfl
theorem bX7_bought_3 : (dz_l cX7_bought).drop 93 = lX7_bought_3 := dz_dr (n := 29) bX7_bought_2 rfl rfl
theorem bX7_bought_4 : (dz_l cX7_bought).drop 126 = lX7_bought_4 := dz_dr (n := 33) bX7_bought_3 rfl rfl
def lX7_cared_4 : List Nat := 54 :: 6 :: 132 :: 7 :: 1 :: 167 :: 255 :: 180 :: 29 :: 154 :: 0 :: 8 :: 21 :: 5 :: 167 :: 0 :: 5 :: 21 :: 6 :: 172 :: []
def lX7_cared_3 : List Nat := 2 :: 182 :: 0 :: 163 :: 87 :: 42 :: 25 :: 4 :: 182 :: 0 :: 211 :: 54 :: 8 :: 21 :: 5 :: 18 :: 200 :: 159 :: 0 :: 10 :: 21 :: 8 :: 21 :: 6 :: 162 :: 0 :: 11 :: 21 :: 7 :: 54 :: 5 :: 21 :: 8 :: lX7_cared_4
def lX7_cared_2 : List Nat := 42 :: 180 :: 0 :: 16 :: 42 :: 180 :: 0 :: 10 :: 182 :: 0 :: 193 :: 42 :: 180 :: 0 :: 16 :: 180 :: 0 :: 130 :: 28 :: 21 :: 7 :: 184 :: 0 :: 133 :: 16 :: 9 :: 79 :: 42 :: 180 :: 0 :: 16 :: 4 :: lX7_cared_3
def lX7_cared_1 : List Nat := 50 :: 58 :: 4 :: 25 :: 4 :: 182 :: 0 :: 207 :: 153 :: 0 :: 6 :: 18 :: 210 :: 172 :: 18 :: 200 :: 54 :: 5 :: 18 :: 200 :: 54 :: 6 :: 3 :: 54 :: 7 :: 21 :: 7 :: 7 :: 162 :: 0 :: 76 :: lX7_cared_2
def lX7_cared_0 : List Nat := 27 :: 184 :: 0 :: 204 :: 153 :: 0 :: 19 :: 28 :: 184 :: 0 :: 71 :: 153 :: 0 :: 12 :: 29 :: 3 :: 4 :: 184 :: 0 :: 74 :: 154 :: 0 :: 6 :: 18 :: 78 :: 172 :: 42 :: 180 :: 0 :: 47 :: 27 :: lX7_cared_1
theorem bX7_cared_0 : (dz_l cX7_cared).drop 0 = lX7_cared_0 := by decide +kernel
theorem bX7_cared_1 : (dz_l cX7_cared).drop 31 = lX7_cared_1 := dz_dr (n := 31) bX7_cared_0 rfl rfl
theorem bX7_cared_2 : (dz_l cX7_cared).drop 62 = lX7_cared_2 := dz_dr (n := 31) bX7_cared_1 rfl rfl
theorem bX7_cared_3 : (dz_l cX7_cared).drop 94 = lX7_cared_3 := dz_dr (n := 32) bX7_cared_2 rfl rfl
theorem bX7_cared_4 : (dz_l cX7_cared).drop 127 = lX7_cared_4 := dz_dr (n := 33) bX7_cared_3 rfl rfl
def lX7_differenceFrom_1 : List Nat := 46 :: 43 :: 180 :: 0 :: 218 :: 29 :: 46 :: 100 :: 184 :: 0 :: 221 :: 96 :: 61 :: 132 :: 3 :: 1 :: 167 :: 255 :: 218 :: 28 :: 172 :: []
def lX7_differenceFrom_0 : List Nat := 3 :: 61 :: 3 :: 62 :: 29 :: 7 :: 162 :: 0 :: 39 :: 43 :: 29 :: 182 :: 0 :: 215 :: 153 :: 0 :: 25 :: 28 :: 42 :: 180 :: 0 :: 16 :: 180 :: 0 :: 127 :: 29 :: lX7_differenceFrom_1
theorem bX7_differenceFrom_0 : (dz_l cX7_differenceFrom).drop 0 = lX7_differenceFrom_0 := by decide +kernel
theorem bX7_differenceFrom_1 : (dz_l cX7_differenceFrom).drop 26 = lX7_differenceFrom_1 := dz_dr (n := 26) bX7_differenceFrom_0 rfl rfl
def lX7_fee_1 : List Nat := 180 :: 0 :: 10 :: 180 :: 0 :: 160 :: 3 :: 182 :: 0 :: 228 :: 172 :: []
def lX7_fee_0 : List Nat := 42 :: 180 :: 0 :: 10 :: 4 :: 182 :: 0 :: 224 :: 76 :: 43 :: 199 :: 0 :: 13 :: 42 :: 180 :: 0 :: 10 :: 180 :: 0 :: 176 :: 167 :: 0 :: 22 :: 43 :: 42 :: 180 :: 0 :: 10 :: 180 :: 0 :: 176 :: 42 :: lX7_fee_1
theorem bX7_fee_0 : (dz_l cX7_fee).drop 0 = lX7_fee_0 := by decide +kernel
theorem bX7_fee_1 : (dz_l cX7_fee).drop 32 = lX7_fee_1 := dz_dr (n := 32) bX7_fee_0 rfl rfl
def lX7_fine_1 : List Nat := 46 :: 62 :: 44 :: 199 :: 0 :: 7 :: 29 :: 167 :: 0 :: 18 :: 44 :: 29 :: 42 :: 180 :: 0 :: 10 :: 180 :: 0 :: 99 :: 27 :: 46 :: 3 :: 182 :: 0 :: 228 :: 172 :: []
def lX7_fine_0 : List Nat := 42 :: 180 :: 0 :: 10 :: 27 :: 182 :: 0 :: 87 :: 154 :: 0 :: 6 :: 18 :: 78 :: 172 :: 42 :: 180 :: 0 :: 10 :: 5 :: 182 :: 0 :: 224 :: 77 :: 42 :: 180 :: 0 :: 10 :: 180 :: 0 :: 102 :: 27 :: lX7_fine_1
theorem bX7_fine_0 : (dz_l cX7_fine).drop 0 = lX7_fine_0 := by decide +kernel
theorem bX7_fine_1 : (dz_l cX7_fine).drop 31 = lX7_fine_1 := dz_dr (n := 31) bX7_fine_0 rfl rfl
def lX7_feed_1 : List Nat := 182 :: 0 :: 239 :: 42 :: 180 :: 0 :: 44 :: 29 :: 182 :: 0 :: 239 :: 42 :: 180 :: 0 :: 44 :: 180 :: 0 :: 234 :: 172 :: []
def lX7_feed_0 : List Nat := 42 :: 180 :: 0 :: 44 :: 180 :: 0 :: 234 :: 16 :: 12 :: 96 :: 16 :: 96 :: 164 :: 0 :: 6 :: 18 :: 82 :: 172 :: 42 :: 180 :: 0 :: 44 :: 27 :: 182 :: 0 :: 239 :: 42 :: 180 :: 0 :: 44 :: 28 :: lX7_feed_1
theorem bX7_feed_0 : (dz_l cX7_feed).drop 0 = lX7_feed_0 := by decide +kernel
theorem bX7_feed_1 : (dz_l cX7_feed).drop 31 = lX7_feed_1 := dz_dr (n := 31) bX7_feed_0 rfl rfl
def lX7_trim_0 : List Nat := 27 :: 3 :: 42 :: 180 :: 0 :: 44 :: 180 :: 0 :: 234 :: 184 :: 0 :: 74 :: 154 :: 0 :: 6 :: 18 :: 78 :: 172 :: 42 :: 180 :: 0 :: 44 :: 27 :: 181 :: 0 :: 234 :: 27 :: 172 :: []
theorem bX7_trim_0 : (dz_l cX7_trim).drop 0 = lX7_trim_0 := by decide +kernel
def lX7_text_2 : List Nat := 172 :: []
def lX7_text_1 : List Nat := 180 :: 0 :: 246 :: 16 :: 14 :: 161 :: 0 :: 6 :: 18 :: 82 :: 172 :: 42 :: 180 :: 0 :: 10 :: 42 :: 180 :: 0 :: 36 :: 182 :: 0 :: 249 :: 182 :: 0 :: 253 :: 42 :: 180 :: 0 :: 10 :: 180 :: 0 :: 246 :: 4 :: 100 :: lX7_text_2
def lX7_text_0 : List Nat := 42 :: 180 :: 0 :: 36 :: 182 :: 0 :: 243 :: 60 :: 42 :: 180 :: 0 :: 44 :: 3 :: 181 :: 0 :: 234 :: 27 :: 155 :: 0 :: 8 :: 16 :: 156 :: 27 :: 100 :: 172 :: 42 :: 180 :: 0 :: 10 :: lX7_text_1
theorem bX7_text_0 : (dz_l cX7_text).drop 0 = lX7_text_0 := by decide +kernel
theorem bX7_text_1 : (dz_l cX7_text).drop 29 = lX7_text_1 := dz_dr (n := 29) bX7_text_0 rfl rfl
theorem bX7_text_2 : (dz_l cX7_text).drop 63 = lX7_text_2 := dz_dr (n := 34) bX7_text_1 rfl rfl
def lX7_textTold_1 : List Nat := 42 :: 180 :: 0 :: 10 :: 180 :: 1 :: 1 :: 27 :: 50 :: 78 :: 45 :: 199 :: 0 :: 6 :: 18 :: 78 :: 172 :: 28 :: 154 :: 0 :: 10 :: 45 :: 180 :: 1 :: 5 :: 167 :: 0 :: 7 :: 45 :: 180 :: 1 :: 8 :: 172 :: []
def lX7_textTold_0 : List Nat := 27 :: 3 :: 42 :: 180 :: 0 :: 10 :: 180 :: 0 :: 246 :: 4 :: 100 :: 184 :: 0 :: 74 :: 153 :: 0 :: 12 :: 28 :: 3 :: 4 :: 184 :: 0 :: 74 :: 154 :: 0 :: 6 :: 18 :: 78 :: 172 :: lX7_textTold_1
theorem bX7_textTold_0 : (dz_l cX7_textTold).drop 0 = lX7_textTold_0 := by decide +kernel
theorem bX7_textTold_1 : (dz_l cX7_textTold).drop 29 = lX7_textTold_1 := dz_dr (n := 29) bX7_textTold_0 rfl rfl
def lX7_why_0 : List Nat := 27 :: 3 :: 5 :: 184 :: 0 :: 74 :: 154 :: 0 :: 6 :: 18 :: 78 :: 172 :: 42 :: 180 :: 0 :: 10 :: 180 :: 1 :: 11 :: 27 :: 46 :: 184 :: 0 :: 112 :: 172 :: []
theorem bX7_why_0 : (dz_l cX7_why).drop 0 = lX7_why_0 := by decide +kernel
def lX7_sheet_2 : List Nat := 180 :: 0 :: 47 :: 27 :: 50 :: 28 :: 29 :: 182 :: 1 :: 14 :: 29 :: 172 :: []
def lX7_sheet_1 : List Nat := 50 :: 2 :: 3 :: 182 :: 1 :: 14 :: 3 :: 172 :: 29 :: 16 :: 24 :: 164 :: 0 :: 6 :: 18 :: 78 :: 172 :: 29 :: 156 :: 0 :: 7 :: 19 :: 1 :: 18 :: 172 :: 42 :: lX7_sheet_2
def lX7_sheet_0 : List Nat := 27 :: 184 :: 0 :: 204 :: 153 :: 0 :: 12 :: 28 :: 2 :: 4 :: 184 :: 0 :: 74 :: 154 :: 0 :: 6 :: 18 :: 78 :: 172 :: 28 :: 2 :: 160 :: 0 :: 16 :: 42 :: 180 :: 0 :: 47 :: 27 :: lX7_sheet_1
theorem bX7_sheet_0 : (dz_l cX7_sheet).drop 0 = lX7_sheet_0 := by decide +kernel
theorem bX7_sheet_1 : (dz_l cX7_sheet).drop 29 = lX7_sheet_1 := dz_dr (n := 29) bX7_sheet_0 rfl rfl
theorem bX7_sheet_2 : (dz_l cX7_sheet).drop 55 = lX7_sheet_2 := dz_dr (n := 26) bX7_sheet_1 rfl rfl
def lX7_mark_3 : List Nat := 180 :: 0 :: 218 :: 28 :: 29 :: 79 :: 4 :: 172 :: []
def lX7_mark_2 : List Nat := 29 :: 147 :: 79 :: 4 :: 172 :: 29 :: 18 :: 200 :: 159 :: 0 :: 19 :: 29 :: 19 :: 1 :: 26 :: 19 :: 1 :: 27 :: 184 :: 0 :: 74 :: 154 :: 0 :: 6 :: 18 :: 78 :: 172 :: 25 :: 4 :: lX7_mark_3
def lX7_mark_1 : List Nat := 28 :: 182 :: 1 :: 19 :: 154 :: 0 :: 7 :: 19 :: 1 :: 22 :: 172 :: 25 :: 4 :: 180 :: 1 :: 23 :: 154 :: 0 :: 23 :: 29 :: 18 :: 200 :: 160 :: 0 :: 6 :: 18 :: 123 :: 172 :: 25 :: 4 :: 180 :: 0 :: 218 :: 28 :: lX7_mark_2
def lX7_mark_0 : List Nat := 27 :: 184 :: 0 :: 204 :: 154 :: 0 :: 6 :: 18 :: 78 :: 172 :: 42 :: 180 :: 0 :: 47 :: 27 :: 50 :: 58 :: 4 :: 25 :: 4 :: 182 :: 0 :: 207 :: 153 :: 0 :: 6 :: 18 :: 210 :: 172 :: 25 :: 4 :: lX7_mark_1
theorem bX7_mark_0 : (dz_l cX7_mark).drop 0 = lX7_mark_0 := by decide +kernel
theorem bX7_mark_1 : (dz_l cX7_mark).drop 31 = lX7_mark_1 := dz_dr (n := 31) bX7_mark_0 rfl rfl
theorem bX7_mark_2 : (dz_l cX7_mark).drop 65 = lX7_mark_2 := dz_dr (n := 34) bX7_mark_1 rfl rfl
theorem bX7_mark_3 : (dz_l cX7_mark).drop 94 = lX7_mark_3 := dz_dr (n := 29) bX7_mark_2 rfl rfl
def lX7_pour_3 : List Nat := 167 :: 255 :: 194 :: 29 :: 172 :: []
def lX7_pour_2 : List Nat := 54 :: 5 :: 21 :: 5 :: 42 :: 180 :: 0 :: 10 :: 180 :: 0 :: 127 :: 21 :: 4 :: 46 :: 159 :: 0 :: 18 :: 42 :: 180 :: 0 :: 10 :: 180 :: 0 :: 127 :: 21 :: 4 :: 21 :: 5 :: 79 :: 132 :: 3 :: 1 :: 132 :: 4 :: 1 :: lX7_pour_3
def lX7_pour_1 : List Nat := 62 :: 3 :: 54 :: 4 :: 21 :: 4 :: 7 :: 162 :: 0 :: 62 :: 44 :: 21 :: 4 :: 182 :: 0 :: 215 :: 153 :: 0 :: 47 :: 44 :: 180 :: 0 :: 218 :: 21 :: 4 :: 46 :: 16 :: 9 :: 184 :: 1 :: 28 :: lX7_pour_2
def lX7_pour_0 : List Nat := 27 :: 184 :: 0 :: 204 :: 154 :: 0 :: 6 :: 18 :: 78 :: 172 :: 42 :: 180 :: 0 :: 47 :: 27 :: 50 :: 77 :: 44 :: 182 :: 0 :: 207 :: 153 :: 0 :: 6 :: 18 :: 210 :: 172 :: 3 :: lX7_pour_1
theorem bX7_pour_0 : (dz_l cX7_pour).drop 0 = lX7_pour_0 := by decide +kernel
theorem bX7_pour_1 : (dz_l cX7_pour).drop 28 = lX7_pour_1 := dz_dr (n := 28) bX7_pour_0 rfl rfl
theorem bX7_pour_2 : (dz_l cX7_pour).drop 59 = lX7_pour_2 := dz_dr (n := 31) bX7_pour_1 rfl rfl
theorem bX7_pour_3 : (dz_l cX7_pour).drop 94 = lX7_pour_3 := dz_dr (n := 35) bX7_pour_2 rfl rfl
def lX7_reads_3 : List Nat := 18 :: 200 :: 172 :: []
def lX7_reads_2 : List Nat := 29 :: 46 :: 42 :: 180 :: 0 :: 16 :: 182 :: 0 :: 173 :: 159 :: 0 :: 5 :: 29 :: 172 :: 42 :: 180 :: 0 :: 16 :: 4 :: 2 :: 182 :: 0 :: 163 :: 87 :: 132 :: 3 :: 1 :: 167 :: 255 :: 209 :: lX7_reads_3
def lX7_reads_1 : List Nat := 180 :: 0 :: 16 :: 42 :: 180 :: 0 :: 10 :: 182 :: 0 :: 193 :: 3 :: 62 :: 29 :: 44 :: 180 :: 1 :: 31 :: 162 :: 0 :: 45 :: 44 :: 29 :: 182 :: 0 :: 215 :: 153 :: 0 :: 21 :: 44 :: 180 :: 0 :: 218 :: lX7_reads_2
def lX7_reads_0 : List Nat := 27 :: 184 :: 0 :: 204 :: 154 :: 0 :: 6 :: 18 :: 78 :: 172 :: 42 :: 180 :: 0 :: 47 :: 27 :: 50 :: 77 :: 44 :: 182 :: 0 :: 207 :: 153 :: 0 :: 6 :: 18 :: 210 :: 172 :: 42 :: lX7_reads_1
theorem bX7_reads_0 : (dz_l cX7_reads).drop 0 = lX7_reads_0 := by decide +kernel
theorem bX7_reads_1 : (dz_l cX7_reads).drop 28 = lX7_reads_1 := dz_dr (n := 28) bX7_reads_0 rfl rfl
theorem bX7_reads_2 : (dz_l cX7_reads).drop 60 = lX7_reads_2 := dz_dr (n := 32) bX7_reads_1 rfl rfl
theorem bX7_reads_3 : (dz_l cX7_reads).drop 90 = lX7_reads_3 := dz_dr (n := 30) bX7_reads_2 rfl rfl
def lX7_copy_3 : List Nat := 25 :: 7 :: 180 :: 0 :: 218 :: 21 :: 4 :: 21 :: 5 :: 184 :: 1 :: 37 :: 21 :: 5 :: 172 :: []
def lX7_copy_2 : List Nat := 172 :: 25 :: 6 :: 28 :: 21 :: 5 :: 182 :: 1 :: 34 :: 153 :: 0 :: 15 :: 25 :: 7 :: 21 :: 4 :: 21 :: 5 :: 182 :: 1 :: 34 :: 154 :: 0 :: 7 :: 19 :: 1 :: 22 :: 172 :: 25 :: 6 :: 180 :: 0 :: 218 :: 28 :: lX7_copy_3
def lX7_copy_1 : List Nat := 50 :: 58 :: 7 :: 25 :: 6 :: 182 :: 0 :: 207 :: 154 :: 0 :: 11 :: 25 :: 7 :: 182 :: 0 :: 207 :: 153 :: 0 :: 6 :: 18 :: 210 :: 172 :: 25 :: 6 :: 180 :: 1 :: 23 :: 25 :: 7 :: 180 :: 1 :: 23 :: 159 :: 0 :: 6 :: 18 :: 123 :: lX7_copy_2
def lX7_copy_0 : List Nat := 27 :: 184 :: 0 :: 204 :: 153 :: 0 :: 10 :: 29 :: 184 :: 0 :: 204 :: 154 :: 0 :: 6 :: 18 :: 78 :: 172 :: 42 :: 180 :: 0 :: 47 :: 27 :: 50 :: 58 :: 6 :: 42 :: 180 :: 0 :: 47 :: 29 :: lX7_copy_1
theorem bX7_copy_0 : (dz_l cX7_copy).drop 0 = lX7_copy_0 := by decide +kernel
theorem bX7_copy_1 : (dz_l cX7_copy).drop 30 = lX7_copy_1 := dz_dr (n := 30) bX7_copy_0 rfl rfl
theorem bX7_copy_2 : (dz_l cX7_copy).drop 67 = lX7_copy_2 := dz_dr (n := 37) bX7_copy_1 rfl rfl
theorem bX7_copy_3 : (dz_l cX7_copy).drop 101 = lX7_copy_3 := dz_dr (n := 34) bX7_copy_2 rfl rfl
def lX7_lay_4 : List Nat := 28 :: 5 :: 160 :: 0 :: 20 :: 25 :: 4 :: 180 :: 1 :: 55 :: 42 :: 180 :: 0 :: 47 :: 29 :: 50 :: 182 :: 1 :: 59 :: 167 :: 0 :: 9 :: 25 :: 4 :: 29 :: 181 :: 1 :: 62 :: 21 :: 5 :: 172 :: []
def lX7_lay_3 : List Nat := 160 :: 0 :: 34 :: 25 :: 4 :: 42 :: 180 :: 0 :: 10 :: 180 :: 0 :: 90 :: 29 :: 46 :: 181 :: 1 :: 49 :: 25 :: 4 :: 42 :: 180 :: 0 :: 10 :: 180 :: 0 :: 96 :: 29 :: 46 :: 181 :: 1 :: 52 :: 167 :: 0 :: 31 :: lX7_lay_4
def lX7_lay_2 : List Nat := 153 :: 0 :: 6 :: 18 :: 210 :: 172 :: 42 :: 180 :: 0 :: 53 :: 27 :: 50 :: 58 :: 4 :: 25 :: 4 :: 180 :: 1 :: 46 :: 54 :: 5 :: 25 :: 4 :: 28 :: 181 :: 1 :: 46 :: 28 :: 4 :: lX7_lay_3
def lX7_lay_1 : List Nat := 28 :: 5 :: 160 :: 0 :: 13 :: 29 :: 184 :: 0 :: 204 :: 154 :: 0 :: 6 :: 18 :: 78 :: 172 :: 28 :: 5 :: 160 :: 0 :: 18 :: 42 :: 180 :: 0 :: 47 :: 29 :: 50 :: 182 :: 0 :: 207 :: lX7_lay_2
def lX7_lay_0 : List Nat := 27 :: 184 :: 1 :: 43 :: 153 :: 0 :: 40 :: 28 :: 3 :: 6 :: 184 :: 0 :: 74 :: 153 :: 0 :: 31 :: 28 :: 4 :: 160 :: 0 :: 14 :: 42 :: 180 :: 0 :: 10 :: 29 :: 182 :: 0 :: 87 :: 153 :: 0 :: 15 :: lX7_lay_1
theorem bX7_lay_0 : (dz_l cX7_lay).drop 0 = lX7_lay_0 := by decide +kernel
theorem bX7_lay_1 : (dz_l cX7_lay).drop 32 = lX7_lay_1 := dz_dr (n := 32) bX7_lay_0 rfl rfl
theorem bX7_lay_2 : (dz_l cX7_lay).drop 61 = lX7_lay_2 := dz_dr (n := 29) bX7_lay_1 rfl rfl
theorem bX7_lay_3 : (dz_l cX7_lay).drop 90 = lX7_lay_3 := dz_dr (n := 29) bX7_lay_2 rfl rfl
theorem bX7_lay_4 : (dz_l cX7_lay).drop 124 = lX7_lay_4 := dz_dr (n := 34) bX7_lay_3 rfl rfl
def lX7_ask_2 : List Nat := 180 :: 1 :: 52 :: 184 :: 0 :: 115 :: 172 :: []
def lX7_ask_1 : List Nat := 18 :: 210 :: 172 :: 45 :: 180 :: 1 :: 46 :: 4 :: 160 :: 0 :: 14 :: 45 :: 180 :: 1 :: 49 :: 28 :: 184 :: 0 :: 119 :: 154 :: 0 :: 6 :: 18 :: 123 :: 172 :: 45 :: 180 :: 1 :: 49 :: 45 :: lX7_ask_2
def lX7_ask_0 : List Nat := 27 :: 184 :: 1 :: 43 :: 153 :: 0 :: 10 :: 28 :: 184 :: 0 :: 67 :: 154 :: 0 :: 6 :: 18 :: 78 :: 172 :: 42 :: 180 :: 0 :: 53 :: 27 :: 50 :: 78 :: 45 :: 180 :: 1 :: 46 :: 154 :: 0 :: 6 :: lX7_ask_1
theorem bX7_ask_0 : (dz_l cX7_ask).drop 0 = lX7_ask_0 := by decide +kernel
theorem bX7_ask_1 : (dz_l cX7_ask).drop 31 = lX7_ask_1 := dz_dr (n := 31) bX7_ask_0 rfl rfl
theorem bX7_ask_2 : (dz_l cX7_ask).drop 61 = lX7_ask_2 := dz_dr (n := 30) bX7_ask_1 rfl rfl
def lX7_item_2 : List Nat := 153 :: 0 :: 15 :: 45 :: 180 :: 1 :: 55 :: 180 :: 0 :: 218 :: 28 :: 46 :: 167 :: 0 :: 5 :: 18 :: 123 :: 172 :: []
def lX7_item_1 : List Nat := 180 :: 1 :: 46 :: 5 :: 159 :: 0 :: 6 :: 18 :: 123 :: 172 :: 45 :: 180 :: 1 :: 55 :: 28 :: 182 :: 1 :: 19 :: 154 :: 0 :: 7 :: 19 :: 1 :: 22 :: 172 :: 45 :: 180 :: 1 :: 55 :: 28 :: 182 :: 0 :: 215 :: lX7_item_2
def lX7_item_0 : List Nat := 27 :: 184 :: 1 :: 43 :: 154 :: 0 :: 6 :: 18 :: 78 :: 172 :: 42 :: 180 :: 0 :: 53 :: 27 :: 50 :: 78 :: 45 :: 180 :: 1 :: 46 :: 154 :: 0 :: 6 :: 18 :: 210 :: 172 :: 45 :: lX7_item_1
theorem bX7_item_0 : (dz_l cX7_item).drop 0 = lX7_item_0 := by decide +kernel
theorem bX7_item_1 : (dz_l cX7_item).drop 28 = lX7_item_1 := dz_dr (n := 28) bX7_item_0 rfl rfl
theorem bX7_item_2 : (dz_l cX7_item).drop 61 = lX7_item_2 := dz_dr (n := 33) bX7_item_1 rfl rfl
def lX7_rest_1 : List Nat := 180 :: 1 :: 46 :: 6 :: 159 :: 0 :: 6 :: 18 :: 123 :: 172 :: 28 :: 154 :: 0 :: 9 :: 19 :: 1 :: 65 :: 167 :: 0 :: 9 :: 45 :: 180 :: 1 :: 62 :: 28 :: 112 :: 172 :: []
def lX7_rest_0 : List Nat := 27 :: 184 :: 1 :: 43 :: 154 :: 0 :: 6 :: 18 :: 78 :: 172 :: 42 :: 180 :: 0 :: 53 :: 27 :: 50 :: 78 :: 45 :: 180 :: 1 :: 46 :: 154 :: 0 :: 6 :: 18 :: 210 :: 172 :: 45 :: lX7_rest_1
theorem bX7_rest_0 : (dz_l cX7_rest).drop 0 = lX7_rest_0 := by decide +kernel
theorem bX7_rest_1 : (dz_l cX7_rest).drop 28 = lX7_rest_1 := dz_dr (n := 28) bX7_rest_0 rfl rfl
def lX7_tell_1 : List Nat := 96 :: 181 :: 0 :: 61 :: 42 :: 180 :: 0 :: 61 :: 172 :: []
def lX7_tell_0 : List Nat := 42 :: 180 :: 0 :: 61 :: 16 :: 60 :: 161 :: 0 :: 6 :: 18 :: 82 :: 172 :: 42 :: 180 :: 0 :: 57 :: 42 :: 180 :: 0 :: 61 :: 27 :: 79 :: 42 :: 89 :: 180 :: 0 :: 61 :: 4 :: lX7_tell_1
theorem bX7_tell_0 : (dz_l cX7_tell).drop 0 = lX7_tell_0 := by decide +kernel
theorem bX7_tell_1 : (dz_l cX7_tell).drop 28 = lX7_tell_1 := dz_dr (n := 28) bX7_tell_0 rfl rfl
def lX7_check_5 : List Nat := 4 :: 29 :: 96 :: 172 :: []
def lX7_check_4 : List Nat := 180 :: 0 :: 57 :: 21 :: 4 :: 46 :: 21 :: 5 :: 159 :: 0 :: 8 :: 4 :: 21 :: 4 :: 96 :: 172 :: 132 :: 4 :: 1 :: 167 :: 255 :: 181 :: 28 :: 29 :: 160 :: 0 :: 7 :: 3 :: 167 :: 0 :: 6 :: lX7_check_5
def lX7_check_3 : List Nat := 21 :: 4 :: 5 :: 112 :: 154 :: 0 :: 13 :: 42 :: 180 :: 0 :: 16 :: 182 :: 0 :: 173 :: 167 :: 0 :: 10 :: 42 :: 180 :: 0 :: 16 :: 180 :: 0 :: 139 :: 54 :: 5 :: 21 :: 4 :: 28 :: 162 :: 0 :: 15 :: 42 :: lX7_check_4
def lX7_check_2 : List Nat := 62 :: 3 :: 54 :: 4 :: 21 :: 4 :: 29 :: 162 :: 0 :: 75 :: 21 :: 4 :: 5 :: 112 :: 154 :: 0 :: 13 :: 42 :: 180 :: 0 :: 16 :: 4 :: 2 :: 182 :: 0 :: 163 :: 87 :: lX7_check_3
def lX7_check_1 : List Nat := 19 :: 1 :: 65 :: 172 :: 42 :: 180 :: 0 :: 16 :: 42 :: 180 :: 0 :: 19 :: 182 :: 0 :: 193 :: 5 :: 27 :: 17 :: 39 :: 15 :: 42 :: 180 :: 0 :: 19 :: 180 :: 0 :: 160 :: 100 :: 184 :: 0 :: 148 :: 104 :: lX7_check_2
def lX7_check_0 : List Nat := 42 :: 180 :: 0 :: 61 :: 61 :: 42 :: 3 :: 181 :: 0 :: 61 :: 27 :: 4 :: 16 :: 30 :: 184 :: 0 :: 74 :: 154 :: 0 :: 6 :: 18 :: 78 :: 172 :: 42 :: 180 :: 0 :: 22 :: 154 :: 0 :: 7 :: lX7_check_1
theorem bX7_check_0 : (dz_l cX7_check).drop 0 = lX7_check_0 := by decide +kernel
theorem bX7_check_1 : (dz_l cX7_check).drop 30 = lX7_check_1 := dz_dr (n := 30) bX7_check_0 rfl rfl
theorem bX7_check_2 : (dz_l cX7_check).drop 62 = lX7_check_2 := dz_dr (n := 32) bX7_check_1 rfl rfl
theorem bX7_check_3 : (dz_l cX7_check).drop 89 = lX7_check_3 := dz_dr (n := 27) bX7_check_2 rfl rfl
theorem bX7_check_4 : (dz_l cX7_check).drop 122 = lX7_check_4 := dz_dr (n := 33) bX7_check_3 rfl rfl
theorem bX7_check_5 : (dz_l cX7_check).drop 153 = lX7_check_5 := dz_dr (n := 31) bX7_check_4 rfl rfl
def lX7_keep_0 : List Nat := 42 :: 180 :: 0 :: 19 :: 42 :: 180 :: 0 :: 10 :: 182 :: 0 :: 193 :: 42 :: 4 :: 181 :: 0 :: 22 :: 42 :: 180 :: 0 :: 19 :: 180 :: 0 :: 79 :: 172 :: []
theorem bX7_keep_0 : (dz_l cX7_keep).drop 0 = lX7_keep_0 := by decide +kernel
def lX7_back_0 : List Nat := 42 :: 180 :: 0 :: 22 :: 154 :: 0 :: 7 :: 19 :: 1 :: 65 :: 172 :: 42 :: 180 :: 0 :: 10 :: 42 :: 180 :: 0 :: 19 :: 182 :: 0 :: 193 :: 42 :: 180 :: 0 :: 10 :: 180 :: 0 :: 79 :: 172 :: []
theorem bX7_back_0 : (dz_l cX7_back).drop 0 = lX7_back_0 := by decide +kernel
def lX7_count_2 : List Nat := 42 :: 180 :: 0 :: 10 :: 180 :: 0 :: 157 :: 172 :: 18 :: 78 :: 172 :: []
def lX7_count_1 : List Nat := 172 :: 42 :: 180 :: 0 :: 10 :: 180 :: 0 :: 145 :: 172 :: 42 :: 180 :: 0 :: 10 :: 180 :: 0 :: 246 :: 172 :: 42 :: 180 :: 0 :: 61 :: 172 :: 42 :: 180 :: 0 :: 44 :: 180 :: 0 :: 234 :: 172 :: lX7_count_2
def lX7_count_0 : List Nat := 27 :: 170 :: 0 :: 0 :: 0 :: 0 :: 0 :: 120 :: 0 :: 0 :: 0 :: 0 :: 0 :: 0 :: 0 :: 8 :: 0 :: 0 :: 0 :: 51 :: 0 :: 0 :: 0 :: 59 :: 0 :: 0 :: 0 :: 67 :: 0 :: 0 :: 0 :: 75 :: 0 :: 0 :: 0 :: 83 :: 0 :: 0 :: 0 :: 91 :: 0 :: 0 :: 0 :: 99 :: 0 :: 0 :: 0 :: 104 :: 0 :: 0 :: 0 :: 112 :: 42 :: 180 :: 0 :: 10 :: 180 :: 0 :: 79 :: 172 :: 42 :: 180 :: 0 :: 10 :: 180 :: 0 :: 160 :: 172 :: 42 :: 180 :: 0 :: 10 :: 180 :: 0 :: 139 :: 172 :: 42 :: 180 :: 0 :: 10 :: 180 :: 0 :: 142 :: lX7_count_1
theorem bX7_count_0 : (dz_l cX7_count).drop 0 = lX7_count_0 := by decide +kernel
theorem bX7_count_1 : (dz_l cX7_count).drop 83 = lX7_count_1 := dz_dr (n := 83) bX7_count_0 rfl rfl
theorem bX7_count_2 : (dz_l cX7_count).drop 113 = lX7_count_2 := dz_dr (n := 30) bX7_count_1 rfl rfl
def lX7_within_0 : List Nat := 26 :: 27 :: 161 :: 0 :: 12 :: 26 :: 28 :: 163 :: 0 :: 7 :: 4 :: 167 :: 0 :: 4 :: 3 :: 172 :: []
theorem bX7_within_0 : (dz_l cX7_within).drop 0 = lX7_within_0 := by decide +kernel
def lX7_heldWithin_0 : List Nat := 26 :: 156 :: 0 :: 7 :: 3 :: 167 :: 0 :: 8 :: 26 :: 27 :: 184 :: 0 :: 148 :: 172 :: []
theorem bX7_heldWithin_0 : (dz_l cX7_heldWithin).drop 0 = lX7_heldWithin_0 := by decide +kernel
def lX7_isSide_0 : List Nat := 26 :: 153 :: 0 :: 8 :: 26 :: 4 :: 160 :: 0 :: 7 :: 4 :: 167 :: 0 :: 4 :: 3 :: 172 :: []
theorem bX7_isSide_0 : (dz_l cX7_isSide).drop 0 = lX7_isSide_0 := by decide +kernel
def lX7_isTerm_0 : List Nat := 26 :: 3 :: 6 :: 184 :: 0 :: 74 :: 172 :: []
theorem bX7_isTerm_0 : (dz_l cX7_isTerm).drop 0 = lX7_isTerm_0 := by decide +kernel
def lX7_isKind_0 : List Nat := 26 :: 3 :: 8 :: 184 :: 0 :: 74 :: 172 :: []
theorem bX7_isKind_0 : (dz_l cX7_isKind).drop 0 = lX7_isKind_0 := by decide +kernel
def lX7_isSheet_0 : List Nat := 26 :: 3 :: 6 :: 184 :: 0 :: 74 :: 172 :: []
theorem bX7_isSheet_0 : (dz_l cX7_isSheet).drop 0 = lX7_isSheet_0 := by decide +kernel
def lX7_isSlot_0 : List Nat := 26 :: 3 :: 7 :: 184 :: 0 :: 74 :: 172 :: []
theorem bX7_isSlot_0 : (dz_l cX7_isSlot).drop 0 = lX7_isSlot_0 := by decide +kernel
def lX7_carePlace_0 : List Nat := 26 :: 7 :: 104 :: 27 :: 96 :: 172 :: []
theorem bX7_carePlace_0 : (dz_l cX7_carePlace).drop 0 = lX7_carePlace_0 := by decide +kernel
def lX7_orNone_0 : List Nat := 26 :: 156 :: 0 :: 8 :: 18 :: 200 :: 167 :: 0 :: 4 :: 26 :: 172 :: []
theorem bX7_orNone_0 : (dz_l cX7_orNone).drop 0 = lX7_orNone_0 := by decide +kernel
def lX7_isUnder_1 : List Nat := 28 :: 46 :: 61 :: 132 :: 3 :: 1 :: 167 :: 255 :: 227 :: 3 :: 172 :: []
def lX7_isUnder_0 : List Nat := 26 :: 61 :: 3 :: 62 :: 29 :: 16 :: 6 :: 162 :: 0 :: 29 :: 28 :: 184 :: 0 :: 67 :: 153 :: 0 :: 22 :: 28 :: 27 :: 160 :: 0 :: 5 :: 4 :: 172 :: 178 :: 1 :: 66 :: lX7_isUnder_1
theorem bX7_isUnder_0 : (dz_l cX7_isUnder).drop 0 = lX7_isUnder_0 := by decide +kernel
theorem bX7_isUnder_1 : (dz_l cX7_isUnder).drop 27 = lX7_isUnder_1 := dz_dr (n := 27) bX7_isUnder_0 rfl rfl
def lX7_worthOf_1 : List Nat := 27 :: 100 :: 16 :: 9 :: 100 :: 172 :: 16 :: 7 :: 172 :: 27 :: 172 :: []
def lX7_worthOf_0 : List Nat := 26 :: 170 :: 0 :: 0 :: 0 :: 0 :: 0 :: 61 :: 0 :: 0 :: 0 :: 1 :: 0 :: 0 :: 0 :: 5 :: 0 :: 0 :: 0 :: 35 :: 0 :: 0 :: 0 :: 45 :: 0 :: 0 :: 0 :: 39 :: 0 :: 0 :: 0 :: 50 :: 0 :: 0 :: 0 :: 58 :: 27 :: 7 :: 96 :: 172 :: 5 :: 27 :: 7 :: 96 :: 104 :: 172 :: 16 :: 99 :: 27 :: 100 :: 172 :: 16 :: 99 :: lX7_worthOf_1
theorem bX7_worthOf_0 : (dz_l cX7_worthOf).drop 0 = lX7_worthOf_0 := by decide +kernel
theorem bX7_worthOf_1 : (dz_l cX7_worthOf).drop 53 = lX7_worthOf_1 := dz_dr (n := 53) bX7_worthOf_0 rfl rfl
def lX8_init_12 : List Nat := 180 :: 0 :: 9 :: 16 :: 16 :: 27 :: 96 :: 4 :: 79 :: 132 :: 1 :: 1 :: 167 :: 255 :: 218 :: 177 :: []
def lX8_init_11 : List Nat := 162 :: 0 :: 39 :: 42 :: 180 :: 0 :: 9 :: 16 :: 8 :: 27 :: 96 :: 8 :: 79 :: 42 :: 180 :: 0 :: 9 :: 16 :: 12 :: 27 :: 96 :: 4 :: 79 :: 42 :: lX8_init_12
def lX8_init_10 : List Nat := 16 :: 10 :: 79 :: 42 :: 180 :: 0 :: 9 :: 16 :: 20 :: 16 :: 20 :: 79 :: 42 :: 180 :: 0 :: 9 :: 16 :: 21 :: 16 :: 20 :: 79 :: 3 :: 60 :: 27 :: 7 :: lX8_init_11
def lX8_init_9 : List Nat := 42 :: 16 :: 60 :: 188 :: 10 :: 181 :: 0 :: 79 :: 42 :: 180 :: 0 :: 9 :: 3 :: 4 :: 79 :: 42 :: 180 :: 0 :: 9 :: 7 :: 16 :: 60 :: 79 :: 42 :: 180 :: 0 :: 9 :: 8 :: lX8_init_10
def lX8_init_8 : List Nat := 181 :: 0 :: 61 :: 42 :: 8 :: 188 :: 10 :: 181 :: 0 :: 64 :: 42 :: 8 :: 188 :: 10 :: 181 :: 0 :: 67 :: 42 :: 8 :: 188 :: 10 :: 181 :: 0 :: 70 :: 42 :: 16 :: 120 :: 188 :: 10 :: 181 :: 0 :: 73 :: 42 :: 16 :: 24 :: 188 :: 10 :: 181 :: 0 :: 76 :: lX8_init_9
def lX8_init_7 : List Nat := 2 :: 79 :: 89 :: 5 :: 2 :: 79 :: 89 :: 6 :: 2 :: 79 :: 181 :: 0 :: 55 :: 42 :: 7 :: 188 :: 10 :: 181 :: 0 :: 58 :: 42 :: 16 :: 96 :: 188 :: 10 :: lX8_init_8
def lX8_init_6 : List Nat := 16 :: 10 :: 188 :: 4 :: 181 :: 0 :: 45 :: 42 :: 16 :: 96 :: 188 :: 10 :: 181 :: 0 :: 49 :: 42 :: 7 :: 188 :: 10 :: 181 :: 0 :: 52 :: 42 :: 7 :: 188 :: 10 :: 89 :: 3 :: 2 :: 79 :: 89 :: 4 :: lX8_init_7
def lX8_init_5 : List Nat := 89 :: 5 :: 16 :: 7 :: 79 :: 89 :: 6 :: 16 :: 11 :: 79 :: 181 :: 0 :: 36 :: 42 :: 16 :: 96 :: 188 :: 10 :: 181 :: 0 :: 39 :: 42 :: 16 :: 96 :: 188 :: 10 :: 181 :: 0 :: 42 :: 42 :: lX8_init_6
def lX8_init_4 : List Nat := 85 :: 89 :: 16 :: 10 :: 16 :: 101 :: 85 :: 181 :: 0 :: 32 :: 42 :: 7 :: 188 :: 10 :: 89 :: 3 :: 3 :: 79 :: 89 :: 4 :: 7 :: 79 :: lX8_init_5
def lX8_init_3 : List Nat := 85 :: 89 :: 16 :: 6 :: 16 :: 101 :: 85 :: 89 :: 16 :: 7 :: 16 :: 102 :: 85 :: 89 :: 16 :: 8 :: 16 :: 105 :: 85 :: 89 :: 16 :: 9 :: 16 :: 110 :: lX8_init_4
def lX8_init_2 : List Nat := 85 :: 89 :: 5 :: 16 :: 110 :: 85 :: 89 :: 6 :: 16 :: 101 :: 85 :: 89 :: 7 :: 16 :: 102 :: 85 :: 89 :: 8 :: 16 :: 101 :: lX8_init_3
def lX8_init_1 : List Nat := 181 :: 0 :: 23 :: 42 :: 16 :: 62 :: 188 :: 10 :: 181 :: 0 :: 26 :: 42 :: 16 :: 96 :: 188 :: 10 :: 181 :: 0 :: 29 :: 42 :: 16 :: 11 :: 188 :: 5 :: 89 :: 3 :: 16 :: 116 :: 85 :: 89 :: 4 :: 16 :: 111 :: lX8_init_2
def lX8_init_0 : List Nat := 42 :: 183 :: 0 :: 1 :: 42 :: 17 :: 5 :: 154 :: 188 :: 10 :: 181 :: 0 :: 9 :: 42 :: 17 :: 5 :: 154 :: 188 :: 10 :: 181 :: 0 :: 13 :: 42 :: 17 :: 5 :: 154 :: 188 :: 10 :: 181 :: 0 :: 16 :: 42 :: 2 :: 181 :: 0 :: 19 :: 42 :: 7 :: 188 :: 10 :: lX8_init_1
theorem bX8_init_0 : (dz_l cX8_init).drop 0 = lX8_init_0 := by decide +kernel
theorem bX8_init_1 : (dz_l cX8_init).drop 40 = lX8_init_1 := dz_dr (n := 40) bX8_init_0 rfl rfl
theorem bX8_init_2 : (dz_l cX8_init).drop 73 = lX8_init_2 := dz_dr (n := 33) bX8_init_1 rfl rfl
theorem bX8_init_3 : (dz_l cX8_init).drop 93 = lX8_init_3 := dz_dr (n := 20) bX8_init_2 rfl rfl
theorem bX8_init_4 : (dz_l cX8_init).drop 117 = lX8_init_4 := dz_dr (n := 24) bX8_init_3 rfl rfl
theorem bX8_init_5 : (dz_l cX8_init).drop 139 = lX8_init_5 := dz_dr (n := 22) bX8_init_4 rfl rfl
theorem bX8_init_6 : (dz_l cX8_init).drop 169 = lX8_init_6 := dz_dr (n := 30) bX8_init_5 rfl rfl
theorem bX8_init_7 : (dz_l cX8_init).drop 201 = lX8_init_7 := dz_dr (n := 32) bX8_init_6 rfl rfl
theorem bX8_init_8 : (dz_l cX8_init).drop 226 = lX8_init_8 := dz_dr (n := 25) bX8_init_7 rfl rfl
theorem bX8_init_9 : (dz_l cX8_init).drop 266 = lX8_init_9 := dz_dr (n := 40) bX8_init_8 rfl rfl
theorem bX8_init_10 : (dz_l cX8_init).drop 294 = lX8_init_10 := dz_dr (n := 28) bX8_init_9 rfl rfl
theorem bX8_init_11 : (dz_l cX8_init).drop 319 = lX8_init_11 := dz_dr (n := 25) bX8_init_10 rfl rfl
theorem bX8_init_12 : (dz_l cX8_init).drop 343 = lX8_init_12 := dz_dr (n := 24) bX8_init_11 rfl rfl
def lX8_in_0 : List Nat := 26 :: 27 :: 161 :: 0 :: 12 :: 26 :: 28 :: 163 :: 0 :: 7 :: 4 :: 167 :: 0 :: 4 :: 3 :: 172 :: []
theorem bX8_in_0 : (dz_l cX8_in).drop 0 = lX8_in_0 := by decide +kernel
def lX8_within_0 : List Nat := 26 :: 27 :: 162 :: 0 :: 7 :: 27 :: 167 :: 0 :: 13 :: 26 :: 28 :: 164 :: 0 :: 7 :: 28 :: 167 :: 0 :: 4 :: 26 :: 172 :: []
theorem bX8_within_0 : (dz_l cX8_within).drop 0 = lX8_within_0 := by decide +kernel
def lX8_copyAll_0 : List Nat := 3 :: 61 :: 28 :: 17 :: 5 :: 154 :: 162 :: 0 :: 15 :: 43 :: 28 :: 42 :: 28 :: 46 :: 79 :: 132 :: 2 :: 1 :: 167 :: 255 :: 240 :: 177 :: []
theorem bX8_copyAll_0 : (dz_l cX8_copyAll).drop 0 = lX8_copyAll_0 := by decide +kernel
def lX8_told0_0 : List Nat := 26 :: 156 :: 0 :: 8 :: 18 :: 82 :: 167 :: 0 :: 4 :: 26 :: 172 :: []
theorem bX8_told0_0 : (dz_l cX8_told0).drop 0 = lX8_told0_0 := by decide +kernel
def lX8_isFriend_0 : List Nat := 27 :: 3 :: 42 :: 180 :: 0 :: 9 :: 4 :: 46 :: 4 :: 100 :: 184 :: 0 :: 83 :: 172 :: []
theorem bX8_isFriend_0 : (dz_l cX8_isFriend).drop 0 = lX8_isFriend_0 := by decide +kernel
def lX8_of_0 : List Nat := 42 :: 180 :: 0 :: 9 :: 16 :: 22 :: 8 :: 27 :: 104 :: 96 :: 28 :: 96 :: 46 :: 172 :: []
theorem bX8_of_0 : (dz_l cX8_of).drop 0 = lX8_of_0 := by decide +kernel
def lX8_put_0 : List Nat := 42 :: 180 :: 0 :: 9 :: 16 :: 22 :: 8 :: 27 :: 104 :: 96 :: 28 :: 96 :: 29 :: 79 :: 177 :: []
theorem bX8_put_0 : (dz_l cX8_put).drop 0 = lX8_put_0 := by decide +kernel
def lX8_becomes_0 : List Nat := 42 :: 180 :: 0 :: 9 :: 27 :: 46 :: 62 :: 42 :: 180 :: 0 :: 9 :: 27 :: 28 :: 79 :: 29 :: 172 :: []
theorem bX8_becomes_0 : (dz_l cX8_becomes).drop 0 = lX8_becomes_0 := by decide +kernel
def lX8_comes_2 : List Nat := 4 :: 92 :: 46 :: 4 :: 96 :: 79 :: 21 :: 4 :: 172 :: []
def lX8_comes_1 : List Nat := 21 :: 4 :: 5 :: 29 :: 182 :: 0 :: 87 :: 42 :: 21 :: 4 :: 6 :: 3 :: 182 :: 0 :: 87 :: 42 :: 21 :: 4 :: 7 :: 3 :: 182 :: 0 :: 87 :: 42 :: 180 :: 0 :: 9 :: lX8_comes_2
def lX8_comes_0 : List Nat := 42 :: 180 :: 0 :: 9 :: 4 :: 46 :: 54 :: 4 :: 42 :: 21 :: 4 :: 3 :: 27 :: 182 :: 0 :: 87 :: 42 :: 21 :: 4 :: 4 :: 28 :: 182 :: 0 :: 87 :: 42 :: lX8_comes_1
theorem bX8_comes_0 : (dz_l cX8_comes).drop 0 = lX8_comes_0 := by decide +kernel
theorem bX8_comes_1 : (dz_l cX8_comes).drop 25 = lX8_comes_1 := dz_dr (n := 25) bX8_comes_0 rfl rfl
theorem bX8_comes_2 : (dz_l cX8_comes).drop 52 = lX8_comes_2 := dz_dr (n := 27) bX8_comes_1 rfl rfl
def lX8_friend_1 : List Nat := 172 :: 42 :: 180 :: 0 :: 9 :: 4 :: 46 :: 16 :: 8 :: 160 :: 0 :: 8 :: 18 :: 92 :: 167 :: 0 :: 10 :: 42 :: 27 :: 28 :: 29 :: 182 :: 0 :: 93 :: 172 :: []
def lX8_friend_0 : List Nat := 27 :: 3 :: 8 :: 184 :: 0 :: 83 :: 153 :: 0 :: 22 :: 28 :: 3 :: 4 :: 184 :: 0 :: 83 :: 153 :: 0 :: 13 :: 29 :: 3 :: 16 :: 99 :: 184 :: 0 :: 83 :: 154 :: 0 :: 6 :: 18 :: 91 :: lX8_friend_1
theorem bX8_friend_0 : (dz_l cX8_friend).drop 0 = lX8_friend_0 := by decide +kernel
theorem bX8_friend_1 : (dz_l cX8_friend).drop 30 = lX8_friend_1 := dz_dr (n := 30) bX8_friend_0 rfl rfl
def lX8_toneOf_5 : List Nat := 5 :: 108 :: 16 :: 10 :: 100 :: 3 :: 16 :: 99 :: 184 :: 0 :: 108 :: 172 :: 3 :: 172 :: 29 :: 172 :: []
def lX8_toneOf_4 : List Nat := 42 :: 180 :: 0 :: 9 :: 6 :: 46 :: 16 :: 40 :: 161 :: 0 :: 7 :: 3 :: 167 :: 0 :: 13 :: 29 :: 16 :: 20 :: 96 :: 3 :: 16 :: 99 :: 184 :: 0 :: 108 :: 172 :: 29 :: lX8_toneOf_5
def lX8_toneOf_3 : List Nat := 62 :: 42 :: 27 :: 3 :: 182 :: 0 :: 101 :: 170 :: 0 :: 0 :: 0 :: 0 :: 90 :: 0 :: 0 :: 0 :: 1 :: 0 :: 0 :: 0 :: 5 :: 0 :: 0 :: 0 :: 34 :: 0 :: 0 :: 0 :: 45 :: 0 :: 0 :: 0 :: 49 :: 0 :: 0 :: 0 :: 75 :: 0 :: 0 :: 0 :: 88 :: 29 :: 16 :: 20 :: 96 :: 3 :: 16 :: 99 :: 184 :: 0 :: 108 :: 172 :: 29 :: 5 :: 108 :: 172 :: lX8_toneOf_4
def lX8_toneOf_2 : List Nat := 5 :: 182 :: 0 :: 101 :: 42 :: 180 :: 0 :: 9 :: 6 :: 46 :: 96 :: 5 :: 108 :: 167 :: 0 :: 14 :: 42 :: 28 :: 182 :: 0 :: 105 :: 3 :: 16 :: 99 :: 184 :: 0 :: 108 :: lX8_toneOf_3
def lX8_toneOf_1 : List Nat := 180 :: 0 :: 9 :: 6 :: 46 :: 79 :: 42 :: 180 :: 0 :: 52 :: 5 :: 42 :: 27 :: 6 :: 182 :: 0 :: 101 :: 79 :: 28 :: 156 :: 0 :: 21 :: 42 :: 27 :: lX8_toneOf_2
def lX8_toneOf_0 : List Nat := 42 :: 3 :: 182 :: 0 :: 97 :: 61 :: 42 :: 180 :: 0 :: 52 :: 3 :: 42 :: 27 :: 5 :: 182 :: 0 :: 101 :: 79 :: 42 :: 180 :: 0 :: 52 :: 4 :: 42 :: lX8_toneOf_1
theorem bX8_toneOf_0 : (dz_l cX8_toneOf).drop 0 = lX8_toneOf_0 := by decide +kernel
theorem bX8_toneOf_1 : (dz_l cX8_toneOf).drop 24 = lX8_toneOf_1 := dz_dr (n := 24) bX8_toneOf_0 rfl rfl
theorem bX8_toneOf_2 : (dz_l cX8_toneOf).drop 48 = lX8_toneOf_2 := dz_dr (n := 24) bX8_toneOf_1 rfl rfl
theorem bX8_toneOf_3 : (dz_l cX8_toneOf).drop 75 = lX8_toneOf_3 := dz_dr (n := 27) bX8_toneOf_2 rfl rfl
theorem bX8_toneOf_4 : (dz_l cX8_toneOf).drop 131 = lX8_toneOf_4 := dz_dr (n := 56) bX8_toneOf_3 rfl rfl
theorem bX8_toneOf_5 : (dz_l cX8_toneOf).drop 158 = lX8_toneOf_5 := dz_dr (n := 27) bX8_toneOf_4 rfl rfl
def lX8_pickOf_2 : List Nat := 21 :: 4 :: 172 :: 21 :: 4 :: 116 :: 172 :: 29 :: 116 :: 172 :: 29 :: 172 :: []
def lX8_pickOf_1 : List Nat := 16 :: 16 :: 7 :: 42 :: 27 :: 4 :: 182 :: 0 :: 101 :: 104 :: 100 :: 28 :: 96 :: 46 :: 54 :: 4 :: 42 :: 27 :: 3 :: 182 :: 0 :: 101 :: 170 :: 0 :: 0 :: 0 :: 0 :: 0 :: 45 :: 0 :: 0 :: 0 :: 1 :: 0 :: 0 :: 0 :: 5 :: 0 :: 0 :: 0 :: 35 :: 0 :: 0 :: 0 :: 45 :: 0 :: 0 :: 0 :: 35 :: 0 :: 0 :: 0 :: 38 :: 0 :: 0 :: 0 :: 42 :: lX8_pickOf_2
def lX8_pickOf_0 : List Nat := 42 :: 180 :: 0 :: 9 :: 16 :: 12 :: 7 :: 42 :: 27 :: 4 :: 182 :: 0 :: 101 :: 104 :: 96 :: 28 :: 96 :: 46 :: 62 :: 42 :: 180 :: 0 :: 9 :: lX8_pickOf_1
theorem bX8_pickOf_0 : (dz_l cX8_pickOf).drop 0 = lX8_pickOf_0 := by decide +kernel
theorem bX8_pickOf_1 : (dz_l cX8_pickOf).drop 23 = lX8_pickOf_1 := dz_dr (n := 23) bX8_pickOf_0 rfl rfl
theorem bX8_pickOf_2 : (dz_l cX8_pickOf).drop 80 = lX8_pickOf_2 := dz_dr (n := 57) bX8_pickOf_1 rfl rfl
def lX8_termOf_2 : List Nat := 29 :: 182 :: 0 :: 111 :: 162 :: 0 :: 8 :: 21 :: 4 :: 167 :: 0 :: 4 :: 29 :: 62 :: 132 :: 4 :: 1 :: 167 :: 255 :: 206 :: 29 :: 172 :: []
def lX8_termOf_1 : List Nat := 42 :: 180 :: 0 :: 9 :: 16 :: 8 :: 21 :: 4 :: 96 :: 46 :: 28 :: 159 :: 0 :: 30 :: 29 :: 155 :: 0 :: 19 :: 42 :: 27 :: 21 :: 4 :: 182 :: 0 :: 111 :: 42 :: 27 :: lX8_termOf_2
def lX8_termOf_0 : List Nat := 42 :: 27 :: 4 :: 182 :: 0 :: 101 :: 154 :: 0 :: 7 :: 3 :: 167 :: 0 :: 5 :: 16 :: 9 :: 61 :: 2 :: 62 :: 3 :: 54 :: 4 :: 21 :: 4 :: 7 :: 162 :: 0 :: 50 :: lX8_termOf_1
theorem bX8_termOf_0 : (dz_l cX8_termOf).drop 0 = lX8_termOf_0 := by decide +kernel
theorem bX8_termOf_1 : (dz_l cX8_termOf).drop 27 = lX8_termOf_1 := dz_dr (n := 27) bX8_termOf_0 rfl rfl
theorem bX8_termOf_2 : (dz_l cX8_termOf).drop 54 = lX8_termOf_2 := dz_dr (n := 27) bX8_termOf_1 rfl rfl
def lX8_worthOf_1 : List Nat := 172 :: 5 :: 28 :: 7 :: 96 :: 104 :: 172 :: 16 :: 90 :: 28 :: 100 :: 172 :: 16 :: 7 :: 172 :: 28 :: 172 :: []
def lX8_worthOf_0 : List Nat := 42 :: 27 :: 5 :: 182 :: 0 :: 101 :: 61 :: 42 :: 27 :: 3 :: 182 :: 0 :: 101 :: 170 :: 0 :: 0 :: 0 :: 0 :: 0 :: 58 :: 0 :: 0 :: 0 :: 1 :: 0 :: 0 :: 0 :: 5 :: 0 :: 0 :: 0 :: 35 :: 0 :: 0 :: 0 :: 39 :: 0 :: 0 :: 0 :: 44 :: 0 :: 0 :: 0 :: 50 :: 0 :: 0 :: 0 :: 55 :: 28 :: 7 :: 96 :: 172 :: 16 :: 99 :: 28 :: 100 :: lX8_worthOf_1
theorem bX8_worthOf_0 : (dz_l cX8_worthOf).drop 0 = lX8_worthOf_0 := by decide +kernel
theorem bX8_worthOf_1 : (dz_l cX8_worthOf).drop 56 = lX8_worthOf_1 := dz_dr (n := 56) bX8_worthOf_0 rfl rfl
def lX8_told_2 : List Nat := 184 :: 0 :: 124 :: 167 :: 0 :: 8 :: 42 :: 27 :: 182 :: 0 :: 127 :: 172 :: []
def lX8_told_1 : List Nat := 28 :: 182 :: 0 :: 101 :: 167 :: 0 :: 38 :: 28 :: 8 :: 160 :: 0 :: 11 :: 42 :: 27 :: 182 :: 0 :: 118 :: 167 :: 0 :: 25 :: 28 :: 16 :: 6 :: 160 :: 0 :: 14 :: 42 :: 27 :: 182 :: 0 :: 121 :: lX8_told_2
def lX8_told_0 : List Nat := 42 :: 27 :: 182 :: 0 :: 114 :: 153 :: 0 :: 13 :: 28 :: 3 :: 16 :: 7 :: 184 :: 0 :: 83 :: 154 :: 0 :: 6 :: 18 :: 91 :: 172 :: 28 :: 8 :: 162 :: 0 :: 12 :: 42 :: 27 :: lX8_told_1
theorem bX8_told_0 : (dz_l cX8_told).drop 0 = lX8_told_0 := by decide +kernel
theorem bX8_told_1 : (dz_l cX8_told).drop 28 = lX8_told_1 := dz_dr (n := 28) bX8_told_0 rfl rfl
theorem bX8_told_2 : (dz_l cX8_told).drop 59 = lX8_told_2 := dz_dr (n := 31) bX8_told_1 rfl rfl
def lX8_isUnder_1 : List Nat := 160 :: 0 :: 7 :: 4 :: 167 :: 0 :: 4 :: 3 :: 172 :: []
def lX8_isUnder_0 : List Nat := 27 :: 153 :: 0 :: 28 :: 26 :: 27 :: 159 :: 0 :: 23 :: 27 :: 4 :: 160 :: 0 :: 8 :: 26 :: 6 :: 159 :: 0 :: 13 :: 27 :: 5 :: 160 :: 0 :: 12 :: 26 :: 7 :: lX8_isUnder_1
theorem bX8_isUnder_0 : (dz_l cX8_isUnder).drop 0 = lX8_isUnder_0 := by decide +kernel
theorem bX8_isUnder_1 : (dz_l cX8_isUnder).drop 26 = lX8_isUnder_1 := dz_dr (n := 26) bX8_isUnder_0 rfl rfl
def lX8_as_1 : List Nat := 184 :: 0 :: 130 :: 153 :: 0 :: 12 :: 42 :: 27 :: 5 :: 182 :: 0 :: 101 :: 167 :: 0 :: 5 :: 18 :: 134 :: 172 :: []
def lX8_as_0 : List Nat := 42 :: 27 :: 182 :: 0 :: 114 :: 153 :: 0 :: 12 :: 28 :: 3 :: 8 :: 184 :: 0 :: 83 :: 154 :: 0 :: 6 :: 18 :: 91 :: 172 :: 42 :: 27 :: 3 :: 182 :: 0 :: 101 :: 28 :: lX8_as_1
theorem bX8_as_0 : (dz_l cX8_as).drop 0 = lX8_as_0 := by decide +kernel
theorem bX8_as_1 : (dz_l cX8_as).drop 27 = lX8_as_1 := dz_dr (n := 27) bX8_as_0 rfl rfl
def lX8_turns_1 : List Nat := 182 :: 0 :: 135 :: 167 :: 0 :: 5 :: 18 :: 91 :: 172 :: []
def lX8_turns_0 : List Nat := 42 :: 27 :: 182 :: 0 :: 114 :: 153 :: 0 :: 26 :: 28 :: 3 :: 8 :: 184 :: 0 :: 83 :: 153 :: 0 :: 17 :: 42 :: 16 :: 22 :: 8 :: 27 :: 104 :: 96 :: 28 :: lX8_turns_1
theorem bX8_turns_0 : (dz_l cX8_turns).drop 0 = lX8_turns_0 := by decide +kernel
theorem bX8_turns_1 : (dz_l cX8_turns).drop 25 = lX8_turns_1 := dz_dr (n := 25) bX8_turns_0 rfl rfl
def lX8_set_1 : List Nat := 16 :: 99 :: 184 :: 0 :: 83 :: 153 :: 0 :: 19 :: 42 :: 16 :: 22 :: 8 :: 27 :: 104 :: 96 :: 28 :: 96 :: 29 :: 182 :: 0 :: 135 :: 167 :: 0 :: 5 :: 18 :: 91 :: 172 :: []
def lX8_set_0 : List Nat := 42 :: 27 :: 182 :: 0 :: 114 :: 153 :: 0 :: 47 :: 28 :: 4 :: 5 :: 184 :: 0 :: 83 :: 153 :: 0 :: 38 :: 29 :: 3 :: 28 :: 4 :: 160 :: 0 :: 7 :: 4 :: 167 :: 0 :: 5 :: lX8_set_1
theorem bX8_set_0 : (dz_l cX8_set).drop 0 = lX8_set_0 := by decide +kernel
theorem bX8_set_1 : (dz_l cX8_set).drop 28 = lX8_set_1 := dz_dr (n := 28) bX8_set_0 rfl rfl
def lX8_stand_1 : List Nat := 167 :: 0 :: 5 :: 18 :: 91 :: 172 :: []
def lX8_stand_0 : List Nat := 27 :: 3 :: 6 :: 184 :: 0 :: 83 :: 153 :: 0 :: 25 :: 28 :: 3 :: 16 :: 9 :: 184 :: 0 :: 83 :: 153 :: 0 :: 15 :: 42 :: 16 :: 8 :: 27 :: 96 :: 28 :: 182 :: 0 :: 135 :: lX8_stand_1
theorem bX8_stand_0 : (dz_l cX8_stand).drop 0 = lX8_stand_0 := by decide +kernel
theorem bX8_stand_1 : (dz_l cX8_stand).drop 28 = lX8_stand_1 := dz_dr (n := 28) bX8_stand_0 rfl rfl
def lX8_care_1 : List Nat := 16 :: 12 :: 7 :: 27 :: 104 :: 96 :: 28 :: 96 :: 29 :: 182 :: 0 :: 135 :: 167 :: 0 :: 5 :: 18 :: 91 :: 172 :: []
def lX8_care_0 : List Nat := 27 :: 3 :: 4 :: 184 :: 0 :: 83 :: 153 :: 0 :: 38 :: 28 :: 3 :: 6 :: 184 :: 0 :: 83 :: 153 :: 0 :: 29 :: 29 :: 3 :: 16 :: 9 :: 184 :: 0 :: 83 :: 153 :: 0 :: 19 :: 42 :: lX8_care_1
theorem bX8_care_0 : (dz_l cX8_care).drop 0 = lX8_care_0 := by decide +kernel
theorem bX8_care_1 : (dz_l cX8_care).drop 29 = lX8_care_1 := dz_dr (n := 29) bX8_care_0 rfl rfl
def lX8_honour_1 : List Nat := 167 :: 0 :: 5 :: 18 :: 91 :: 172 :: []
def lX8_honour_0 : List Nat := 27 :: 3 :: 4 :: 184 :: 0 :: 83 :: 153 :: 0 :: 26 :: 28 :: 3 :: 17 :: 1 :: 144 :: 184 :: 0 :: 83 :: 153 :: 0 :: 15 :: 42 :: 16 :: 20 :: 27 :: 96 :: 28 :: 182 :: 0 :: 135 :: lX8_honour_1
theorem bX8_honour_0 : (dz_l cX8_honour).drop 0 = lX8_honour_0 := by decide +kernel
theorem bX8_honour_1 : (dz_l cX8_honour).drop 29 = lX8_honour_1 := dz_dr (n := 29) bX8_honour_0 rfl rfl
def lX8_rule_1 : List Nat := 167 :: 0 :: 5 :: 16 :: 99 :: 184 :: 0 :: 83 :: 153 :: 0 :: 14 :: 42 :: 6 :: 27 :: 96 :: 28 :: 182 :: 0 :: 135 :: 167 :: 0 :: 5 :: 18 :: 91 :: 172 :: []
def lX8_rule_0 : List Nat := 27 :: 3 :: 5 :: 184 :: 0 :: 83 :: 153 :: 0 :: 43 :: 28 :: 27 :: 4 :: 160 :: 0 :: 7 :: 4 :: 167 :: 0 :: 4 :: 3 :: 27 :: 5 :: 160 :: 0 :: 8 :: 16 :: 100 :: lX8_rule_1
theorem bX8_rule_0 : (dz_l cX8_rule).drop 0 = lX8_rule_0 := by decide +kernel
theorem bX8_rule_1 : (dz_l cX8_rule).drop 27 = lX8_rule_1 := dz_dr (n := 27) bX8_rule_0 rfl rfl
def lX8_draw_1 : List Nat := 16 :: 8 :: 124 :: 172 :: []
def lX8_draw_0 : List Nat := 42 :: 180 :: 0 :: 9 :: 3 :: 42 :: 180 :: 0 :: 9 :: 3 :: 46 :: 18 :: 138 :: 104 :: 17 :: 48 :: 57 :: 96 :: 79 :: 42 :: 180 :: 0 :: 9 :: 3 :: 46 :: lX8_draw_1
theorem bX8_draw_0 : (dz_l cX8_draw).drop 0 = lX8_draw_0 := by decide +kernel
theorem bX8_draw_1 : (dz_l cX8_draw).drop 25 = lX8_draw_1 := dz_dr (n := 25) bX8_draw_0 rfl rfl
def lX8_deal_2 : List Nat := 182 :: 0 :: 139 :: 16 :: 100 :: 112 :: 182 :: 0 :: 93 :: 54 :: 5 :: 132 :: 2 :: 1 :: 167 :: 255 :: 205 :: 28 :: 172 :: []
def lX8_deal_1 : List Nat := 16 :: 8 :: 162 :: 0 :: 41 :: 42 :: 182 :: 0 :: 139 :: 16 :: 6 :: 112 :: 62 :: 42 :: 182 :: 0 :: 139 :: 5 :: 112 :: 54 :: 4 :: 42 :: 29 :: 21 :: 4 :: 42 :: lX8_deal_2
def lX8_deal_0 : List Nat := 27 :: 4 :: 16 :: 8 :: 184 :: 0 :: 83 :: 154 :: 0 :: 6 :: 18 :: 91 :: 172 :: 3 :: 61 :: 28 :: 27 :: 162 :: 0 :: 52 :: 42 :: 180 :: 0 :: 9 :: 4 :: 46 :: lX8_deal_1
theorem bX8_deal_0 : (dz_l cX8_deal).drop 0 = lX8_deal_0 := by decide +kernel
theorem bX8_deal_1 : (dz_l cX8_deal).drop 26 = lX8_deal_1 := dz_dr (n := 26) bX8_deal_0 rfl rfl
theorem bX8_deal_2 : (dz_l cX8_deal).drop 52 = lX8_deal_2 := dz_dr (n := 26) bX8_deal_1 rfl rfl
def lX8_seed_0 : List Nat := 42 :: 3 :: 27 :: 182 :: 0 :: 135 :: 172 :: []
theorem bX8_seed_0 : (dz_l cX8_seed).drop 0 = lX8_seed_0 := by decide +kernel
def lX8_has_2 : List Nat := 104 :: 96 :: 61 :: 132 :: 3 :: 1 :: 167 :: 255 :: 206 :: 28 :: 172 :: []
def lX8_has_1 : List Nat := 180 :: 0 :: 9 :: 16 :: 12 :: 7 :: 27 :: 104 :: 96 :: 29 :: 96 :: 46 :: 27 :: 154 :: 0 :: 8 :: 21 :: 4 :: 167 :: 0 :: 8 :: 16 :: 9 :: 21 :: 4 :: 100 :: lX8_has_2
def lX8_has_0 : List Nat := 3 :: 61 :: 3 :: 62 :: 29 :: 7 :: 162 :: 0 :: 51 :: 42 :: 180 :: 0 :: 9 :: 16 :: 8 :: 29 :: 96 :: 46 :: 54 :: 4 :: 28 :: 42 :: lX8_has_1
theorem bX8_has_0 : (dz_l cX8_has).drop 0 = lX8_has_0 := by decide +kernel
theorem bX8_has_1 : (dz_l cX8_has).drop 22 = lX8_has_1 := dz_dr (n := 22) bX8_has_0 rfl rfl
theorem bX8_has_2 : (dz_l cX8_has).drop 48 = lX8_has_2 := dz_dr (n := 26) bX8_has_1 rfl rfl
def lX8_isPeace_1 : List Nat := 4 :: 167 :: 0 :: 4 :: 3 :: 172 :: []
def lX8_isPeace_0 : List Nat := 42 :: 3 :: 182 :: 0 :: 143 :: 42 :: 180 :: 0 :: 9 :: 16 :: 20 :: 46 :: 161 :: 0 :: 22 :: 42 :: 4 :: 182 :: 0 :: 143 :: 42 :: 180 :: 0 :: 9 :: 16 :: 21 :: 46 :: 161 :: 0 :: 7 :: lX8_isPeace_1
theorem bX8_isPeace_0 : (dz_l cX8_isPeace).drop 0 = lX8_isPeace_0 := by decide +kernel
theorem bX8_isPeace_1 : (dz_l cX8_isPeace).drop 30 = lX8_isPeace_1 := dz_dr (n := 30) bX8_isPeace_0 rfl rfl
def lX8_letter_4 : List Nat := 42 :: 27 :: 7 :: 182 :: 0 :: 101 :: 4 :: 96 :: 182 :: 0 :: 87 :: 42 :: 89 :: 180 :: 0 :: 146 :: 4 :: 100 :: 181 :: 0 :: 146 :: 177 :: []
def lX8_letter_3 : List Nat := 28 :: 92 :: 46 :: 42 :: 27 :: 4 :: 182 :: 0 :: 101 :: 154 :: 0 :: 7 :: 2 :: 167 :: 0 :: 4 :: 4 :: 96 :: 79 :: 42 :: 27 :: 7 :: lX8_letter_4
def lX8_letter_2 : List Nat := 161 :: 0 :: 14 :: 42 :: 89 :: 180 :: 0 :: 146 :: 8 :: 96 :: 181 :: 0 :: 146 :: 177 :: 42 :: 27 :: 182 :: 0 :: 121 :: 61 :: 28 :: 155 :: 0 :: 50 :: 42 :: 180 :: 0 :: 23 :: lX8_letter_3
def lX8_letter_1 : List Nat := 8 :: 46 :: 162 :: 0 :: 15 :: 42 :: 180 :: 0 :: 9 :: 16 :: 6 :: 92 :: 46 :: 4 :: 96 :: 79 :: 177 :: 42 :: 27 :: 182 :: 0 :: 118 :: 16 :: 50 :: lX8_letter_2
def lX8_letter_0 : List Nat := 42 :: 27 :: 6 :: 42 :: 27 :: 6 :: 182 :: 0 :: 101 :: 4 :: 96 :: 182 :: 0 :: 87 :: 42 :: 182 :: 0 :: 139 :: 16 :: 100 :: 112 :: 42 :: 180 :: 0 :: 9 :: lX8_letter_1
theorem bX8_letter_0 : (dz_l cX8_letter).drop 0 = lX8_letter_0 := by decide +kernel
theorem bX8_letter_1 : (dz_l cX8_letter).drop 25 = lX8_letter_1 := dz_dr (n := 25) bX8_letter_0 rfl rfl
theorem bX8_letter_2 : (dz_l cX8_letter).drop 49 = lX8_letter_2 := dz_dr (n := 24) bX8_letter_1 rfl rfl
theorem bX8_letter_3 : (dz_l cX8_letter).drop 77 = lX8_letter_3 := dz_dr (n := 28) bX8_letter_2 rfl rfl
theorem bX8_letter_4 : (dz_l cX8_letter).drop 99 = lX8_letter_4 := dz_dr (n := 22) bX8_letter_3 rfl rfl
def lX8_post_5 : List Nat := 42 :: 180 :: 0 :: 9 :: 6 :: 42 :: 180 :: 0 :: 9 :: 6 :: 46 :: 42 :: 180 :: 0 :: 146 :: 96 :: 3 :: 16 :: 99 :: 184 :: 0 :: 108 :: 79 :: 177 :: []
def lX8_post_4 : List Nat := 180 :: 0 :: 9 :: 16 :: 8 :: 27 :: 96 :: 46 :: 42 :: 180 :: 0 :: 23 :: 27 :: 46 :: 96 :: 3 :: 16 :: 9 :: 184 :: 0 :: 108 :: 79 :: 132 :: 1 :: 1 :: 167 :: 255 :: 217 :: lX8_post_5
def lX8_post_3 : List Nat := 42 :: 27 :: 182 :: 0 :: 153 :: 132 :: 1 :: 1 :: 167 :: 255 :: 230 :: 3 :: 60 :: 27 :: 7 :: 162 :: 0 :: 40 :: 42 :: 180 :: 0 :: 9 :: 16 :: 8 :: 27 :: 96 :: 42 :: lX8_post_4
def lX8_post_2 : List Nat := 167 :: 255 :: 241 :: 42 :: 3 :: 181 :: 0 :: 146 :: 3 :: 60 :: 27 :: 42 :: 180 :: 0 :: 9 :: 4 :: 46 :: 162 :: 0 :: 22 :: 27 :: 42 :: 180 :: 0 :: 19 :: 159 :: 0 :: 8 :: lX8_post_3
def lX8_post_1 : List Nat := 180 :: 0 :: 9 :: 7 :: 46 :: 161 :: 0 :: 4 :: 177 :: 3 :: 60 :: 27 :: 7 :: 162 :: 0 :: 16 :: 42 :: 180 :: 0 :: 23 :: 27 :: 3 :: 79 :: 132 :: 1 :: 1 :: lX8_post_2
def lX8_post_0 : List Nat := 42 :: 180 :: 0 :: 9 :: 5 :: 92 :: 46 :: 4 :: 96 :: 79 :: 42 :: 182 :: 0 :: 149 :: 154 :: 0 :: 18 :: 42 :: 180 :: 0 :: 9 :: 6 :: 46 :: 42 :: lX8_post_1
theorem bX8_post_0 : (dz_l cX8_post).drop 0 = lX8_post_0 := by decide +kernel
theorem bX8_post_1 : (dz_l cX8_post).drop 24 = lX8_post_1 := dz_dr (n := 24) bX8_post_0 rfl rfl
theorem bX8_post_2 : (dz_l cX8_post).drop 50 = lX8_post_2 := dz_dr (n := 26) bX8_post_1 rfl rfl
theorem bX8_post_3 : (dz_l cX8_post).drop 78 = lX8_post_3 := dz_dr (n := 28) bX8_post_2 rfl rfl
theorem bX8_post_4 : (dz_l cX8_post).drop 105 = lX8_post_4 := dz_dr (n := 27) bX8_post_3 rfl rfl
theorem bX8_post_5 : (dz_l cX8_post).drop 133 = lX8_post_5 := dz_dr (n := 28) bX8_post_4 rfl rfl
def lX8_goesOn_0 : List Nat := 3 :: 61 :: 28 :: 27 :: 162 :: 0 :: 13 :: 42 :: 182 :: 0 :: 157 :: 132 :: 2 :: 1 :: 167 :: 255 :: 244 :: 177 :: []
theorem bX8_goesOn_0 : (dz_l cX8_goesOn).drop 0 = lX8_goesOn_0 := by decide +kernel
def lX8_sumOf_1 : List Nat := 61 :: 132 :: 3 :: 1 :: 167 :: 255 :: 234 :: 28 :: 172 :: []
def lX8_sumOf_0 : List Nat := 3 :: 61 :: 3 :: 62 :: 29 :: 42 :: 180 :: 0 :: 9 :: 4 :: 46 :: 162 :: 0 :: 18 :: 28 :: 42 :: 29 :: 27 :: 182 :: 0 :: 101 :: 96 :: lX8_sumOf_1
theorem bX8_sumOf_0 : (dz_l cX8_sumOf).drop 0 = lX8_sumOf_0 := by decide +kernel
theorem bX8_sumOf_1 : (dz_l cX8_sumOf).drop 22 = lX8_sumOf_1 := dz_dr (n := 22) bX8_sumOf_0 rfl rfl
def lX8_posts_1 : List Nat := 46 :: 100 :: 3 :: 27 :: 184 :: 0 :: 108 :: 182 :: 0 :: 163 :: 42 :: 7 :: 182 :: 0 :: 160 :: 28 :: 100 :: 172 :: []
def lX8_posts_0 : List Nat := 27 :: 4 :: 16 :: 100 :: 184 :: 0 :: 83 :: 154 :: 0 :: 6 :: 18 :: 91 :: 172 :: 42 :: 7 :: 182 :: 0 :: 160 :: 61 :: 42 :: 17 :: 39 :: 15 :: 42 :: 180 :: 0 :: 9 :: 5 :: lX8_posts_1
theorem bX8_posts_0 : (dz_l cX8_posts).drop 0 = lX8_posts_0 := by decide +kernel
theorem bX8_posts_1 : (dz_l cX8_posts).drop 28 = lX8_posts_1 := dz_dr (n := 28) bX8_posts_0 rfl rfl
def lX8_stands_1 : List Nat := 96 :: 60 :: 132 :: 2 :: 1 :: 167 :: 255 :: 233 :: 27 :: 172 :: []
def lX8_stands_0 : List Nat := 3 :: 60 :: 3 :: 61 :: 28 :: 7 :: 162 :: 0 :: 24 :: 16 :: 10 :: 27 :: 104 :: 42 :: 180 :: 0 :: 9 :: 16 :: 8 :: 28 :: 96 :: 46 :: lX8_stands_1
theorem bX8_stands_0 : (dz_l cX8_stands).drop 0 = lX8_stands_0 := by decide +kernel
theorem bX8_stands_1 : (dz_l cX8_stands).drop 22 = lX8_stands_1 := dz_dr (n := 22) bX8_stands_0 rfl rfl
def lX8_table_1 : List Nat := 180 :: 0 :: 9 :: 16 :: 6 :: 46 :: 172 :: 42 :: 6 :: 182 :: 0 :: 160 :: 172 :: 42 :: 7 :: 182 :: 0 :: 160 :: 172 :: 18 :: 91 :: 172 :: []
def lX8_table_0 : List Nat := 27 :: 170 :: 0 :: 0 :: 0 :: 0 :: 0 :: 87 :: 0 :: 0 :: 0 :: 0 :: 0 :: 0 :: 0 :: 6 :: 0 :: 0 :: 0 :: 43 :: 0 :: 0 :: 0 :: 43 :: 0 :: 0 :: 0 :: 49 :: 0 :: 0 :: 0 :: 62 :: 0 :: 0 :: 0 :: 67 :: 0 :: 0 :: 0 :: 75 :: 0 :: 0 :: 0 :: 81 :: 42 :: 27 :: 182 :: 0 :: 143 :: 172 :: 42 :: 182 :: 0 :: 149 :: 153 :: 0 :: 7 :: 4 :: 167 :: 0 :: 4 :: 3 :: 172 :: 42 :: 182 :: 0 :: 166 :: 172 :: 42 :: lX8_table_1
theorem bX8_table_0 : (dz_l cX8_table).drop 0 = lX8_table_0 := by decide +kernel
theorem bX8_table_1 : (dz_l cX8_table).drop 69 = lX8_table_1 := dz_dr (n := 69) bX8_table_0 rfl rfl
def lX8_thinks_0 : List Nat := 3 :: 60 :: 27 :: 16 :: 62 :: 162 :: 0 :: 21 :: 42 :: 180 :: 0 :: 26 :: 27 :: 42 :: 180 :: 0 :: 9 :: 27 :: 46 :: 79 :: 132 :: 1 :: 1 :: 167 :: 255 :: 235 :: 177 :: []
theorem bX8_thinks_0 : (dz_l cX8_thinks).drop 0 = lX8_thinks_0 := by decide +kernel
def lX8_putsBack_1 : List Nat := 2 :: 181 :: 0 :: 19 :: 177 :: []
def lX8_putsBack_0 : List Nat := 3 :: 60 :: 27 :: 16 :: 62 :: 162 :: 0 :: 21 :: 42 :: 180 :: 0 :: 9 :: 27 :: 42 :: 180 :: 0 :: 26 :: 27 :: 46 :: 79 :: 132 :: 1 :: 1 :: 167 :: 255 :: 235 :: 42 :: lX8_putsBack_1
theorem bX8_putsBack_0 : (dz_l cX8_putsBack).drop 0 = lX8_putsBack_0 := by decide +kernel
theorem bX8_putsBack_1 : (dz_l cX8_putsBack).drop 27 = lX8_putsBack_1 := dz_dr (n := 27) bX8_putsBack_0 rfl rfl
def lX8_standAs_1 : List Nat := 16 :: 10 :: 108 :: 61 :: 132 :: 3 :: 255 :: 167 :: 255 :: 231 :: 177 :: []
def lX8_standAs_0 : List Nat := 27 :: 61 :: 6 :: 62 :: 29 :: 155 :: 0 :: 27 :: 42 :: 180 :: 0 :: 9 :: 16 :: 8 :: 29 :: 96 :: 28 :: 16 :: 10 :: 112 :: 79 :: 28 :: lX8_standAs_1
theorem bX8_standAs_0 : (dz_l cX8_standAs).drop 0 = lX8_standAs_0 := by decide +kernel
theorem bX8_standAs_1 : (dz_l cX8_standAs).drop 22 = lX8_standAs_1 := dz_dr (n := 22) bX8_standAs_0 rfl rfl
def lX8_taken_1 : List Nat := 4 :: 167 :: 0 :: 4 :: 3 :: 96 :: 60 :: 132 :: 2 :: 1 :: 167 :: 255 :: 226 :: 42 :: 182 :: 0 :: 175 :: 27 :: 172 :: []
def lX8_taken_0 : List Nat := 42 :: 182 :: 0 :: 169 :: 3 :: 60 :: 3 :: 61 :: 28 :: 17 :: 39 :: 16 :: 162 :: 0 :: 29 :: 42 :: 28 :: 182 :: 0 :: 172 :: 27 :: 42 :: 182 :: 0 :: 149 :: 153 :: 0 :: 7 :: lX8_taken_1
theorem bX8_taken_0 : (dz_l cX8_taken).drop 0 = lX8_taken_0 := by decide +kernel
theorem bX8_taken_1 : (dz_l cX8_taken).drop 28 = lX8_taken_1 := dz_dr (n := 28) bX8_taken_0 rfl rfl
def lX8_wellBy_3 : List Nat := 28 :: 21 :: 4 :: 156 :: 0 :: 9 :: 21 :: 4 :: 116 :: 167 :: 0 :: 5 :: 21 :: 4 :: 96 :: 61 :: 132 :: 3 :: 1 :: 167 :: 255 :: 211 :: 28 :: 116 :: 172 :: []
def lX8_wellBy_2 : List Nat := 7 :: 162 :: 0 :: 46 :: 42 :: 180 :: 0 :: 9 :: 16 :: 8 :: 29 :: 96 :: 46 :: 42 :: 180 :: 0 :: 26 :: 16 :: 8 :: 29 :: 96 :: 46 :: 100 :: 54 :: 4 :: lX8_wellBy_3
def lX8_wellBy_1 : List Nat := 16 :: 21 :: 46 :: 100 :: 62 :: 28 :: 29 :: 162 :: 0 :: 7 :: 28 :: 167 :: 0 :: 4 :: 29 :: 172 :: 3 :: 61 :: 3 :: 62 :: 29 :: lX8_wellBy_2
def lX8_wellBy_0 : List Nat := 27 :: 154 :: 0 :: 42 :: 42 :: 3 :: 182 :: 0 :: 143 :: 42 :: 180 :: 0 :: 9 :: 16 :: 20 :: 46 :: 100 :: 61 :: 42 :: 4 :: 182 :: 0 :: 143 :: 42 :: 180 :: 0 :: 9 :: lX8_wellBy_1
theorem bX8_wellBy_0 : (dz_l cX8_wellBy).drop 0 = lX8_wellBy_0 := by decide +kernel
theorem bX8_wellBy_1 : (dz_l cX8_wellBy).drop 27 = lX8_wellBy_1 := dz_dr (n := 27) bX8_wellBy_0 rfl rfl
theorem bX8_wellBy_2 : (dz_l cX8_wellBy).drop 48 = lX8_wellBy_2 := dz_dr (n := 21) bX8_wellBy_1 rfl rfl
theorem bX8_wellBy_3 : (dz_l cX8_wellBy).drop 73 = lX8_wellBy_3 := dz_dr (n := 25) bX8_wellBy_2 rfl rfl
def lX8_terms_2 : List Nat := 164 :: 0 :: 9 :: 21 :: 4 :: 61 :: 21 :: 5 :: 62 :: 132 :: 4 :: 1 :: 167 :: 255 :: 209 :: 42 :: 182 :: 0 :: 175 :: 28 :: 184 :: 0 :: 124 :: 172 :: []
def lX8_terms_1 : List Nat := 17 :: 39 :: 16 :: 162 :: 0 :: 45 :: 42 :: 21 :: 4 :: 182 :: 0 :: 172 :: 42 :: 182 :: 0 :: 149 :: 153 :: 0 :: 26 :: 42 :: 27 :: 182 :: 0 :: 178 :: 54 :: 5 :: 28 :: 155 :: 0 :: 9 :: 21 :: 5 :: 29 :: lX8_terms_2
def lX8_terms_0 : List Nat := 27 :: 3 :: 4 :: 184 :: 0 :: 83 :: 154 :: 0 :: 6 :: 18 :: 91 :: 172 :: 42 :: 182 :: 0 :: 169 :: 2 :: 61 :: 3 :: 62 :: 3 :: 54 :: 4 :: 21 :: 4 :: lX8_terms_1
theorem bX8_terms_0 : (dz_l cX8_terms).drop 0 = lX8_terms_0 := by decide +kernel
theorem bX8_terms_1 : (dz_l cX8_terms).drop 25 = lX8_terms_1 := dz_dr (n := 25) bX8_terms_0 rfl rfl
theorem bX8_terms_2 : (dz_l cX8_terms).drop 58 = lX8_terms_2 := dz_dr (n := 33) bX8_terms_1 rfl rfl
def lX8_behind_3 : List Nat := 172 :: []
def lX8_behind_2 : List Nat := 160 :: 0 :: 18 :: 42 :: 182 :: 0 :: 149 :: 153 :: 0 :: 7 :: 4 :: 167 :: 0 :: 14 :: 3 :: 167 :: 0 :: 10 :: 42 :: 180 :: 0 :: 9 :: 16 :: 6 :: 46 :: 62 :: 42 :: 182 :: 0 :: 175 :: 29 :: lX8_behind_3
def lX8_behind_1 : List Nat := 182 :: 0 :: 163 :: 28 :: 154 :: 0 :: 12 :: 42 :: 180 :: 0 :: 9 :: 6 :: 46 :: 167 :: 0 :: 42 :: 28 :: 4 :: 160 :: 0 :: 10 :: 42 :: 182 :: 0 :: 166 :: 167 :: 0 :: 30 :: 28 :: 5 :: lX8_behind_2
def lX8_behind_0 : List Nat := 27 :: 3 :: 16 :: 100 :: 184 :: 0 :: 83 :: 153 :: 0 :: 12 :: 28 :: 3 :: 6 :: 184 :: 0 :: 83 :: 154 :: 0 :: 6 :: 18 :: 91 :: 172 :: 42 :: 182 :: 0 :: 169 :: 42 :: 27 :: lX8_behind_1
theorem bX8_behind_0 : (dz_l cX8_behind).drop 0 = lX8_behind_0 := by decide +kernel
theorem bX8_behind_1 : (dz_l cX8_behind).drop 28 = lX8_behind_1 := dz_dr (n := 28) bX8_behind_0 rfl rfl
theorem bX8_behind_2 : (dz_l cX8_behind).drop 58 = lX8_behind_2 := dz_dr (n := 30) bX8_behind_1 rfl rfl
theorem bX8_behind_3 : (dz_l cX8_behind).drop 89 = lX8_behind_3 := dz_dr (n := 31) bX8_behind_2 rfl rfl
def lX8_ends_3 : List Nat := 29 :: 172 :: []
def lX8_ends_2 : List Nat := 153 :: 0 :: 7 :: 4 :: 167 :: 0 :: 4 :: 5 :: 62 :: 42 :: 182 :: 0 :: 175 :: 28 :: 17 :: 0 :: 200 :: 164 :: 0 :: 8 :: 18 :: 82 :: 167 :: 0 :: 12 :: 27 :: 154 :: 0 :: 7 :: 28 :: 167 :: 0 :: 4 :: lX8_ends_3
def lX8_ends_1 : List Nat := 154 :: 0 :: 28 :: 42 :: 180 :: 0 :: 9 :: 6 :: 46 :: 42 :: 180 :: 0 :: 9 :: 7 :: 46 :: 162 :: 0 :: 13 :: 42 :: 182 :: 0 :: 157 :: 132 :: 2 :: 1 :: 167 :: 255 :: 220 :: 42 :: 182 :: 0 :: 149 :: lX8_ends_2
def lX8_ends_0 : List Nat := 27 :: 3 :: 4 :: 184 :: 0 :: 83 :: 154 :: 0 :: 6 :: 18 :: 91 :: 172 :: 42 :: 182 :: 0 :: 169 :: 3 :: 61 :: 28 :: 17 :: 0 :: 200 :: 163 :: 0 :: 35 :: 42 :: 182 :: 0 :: 149 :: lX8_ends_1
theorem bX8_ends_0 : (dz_l cX8_ends).drop 0 = lX8_ends_0 := by decide +kernel
theorem bX8_ends_1 : (dz_l cX8_ends).drop 29 = lX8_ends_1 := dz_dr (n := 29) bX8_ends_0 rfl rfl
theorem bX8_ends_2 : (dz_l cX8_ends).drop 61 = lX8_ends_2 := dz_dr (n := 32) bX8_ends_1 rfl rfl
theorem bX8_ends_3 : (dz_l cX8_ends).drop 94 = lX8_ends_3 := dz_dr (n := 33) bX8_ends_2 rfl rfl
def lX8_endsWell_0 : List Nat := 42 :: 27 :: 182 :: 0 :: 163 :: 42 :: 182 :: 0 :: 149 :: 61 :: 42 :: 182 :: 0 :: 175 :: 28 :: 172 :: []
theorem bX8_endsWell_0 : (dz_l cX8_endsWell).drop 0 = lX8_endsWell_0 := by decide +kernel
def lX8_held_2 : List Nat := 153 :: 0 :: 10 :: 4 :: 21 :: 4 :: 120 :: 167 :: 0 :: 4 :: 3 :: 128 :: 61 :: 132 :: 4 :: 1 :: 167 :: 255 :: 213 :: 28 :: 172 :: []
def lX8_held_1 : List Nat := 54 :: 4 :: 21 :: 4 :: 42 :: 180 :: 0 :: 9 :: 4 :: 46 :: 162 :: 0 :: 38 :: 29 :: 154 :: 0 :: 34 :: 42 :: 21 :: 4 :: 181 :: 0 :: 19 :: 28 :: 42 :: 27 :: 182 :: 0 :: 181 :: lX8_held_2
def lX8_held_0 : List Nat := 27 :: 4 :: 16 :: 60 :: 184 :: 0 :: 83 :: 154 :: 0 :: 6 :: 18 :: 91 :: 172 :: 42 :: 182 :: 0 :: 169 :: 3 :: 61 :: 42 :: 27 :: 182 :: 0 :: 181 :: 62 :: 3 :: lX8_held_1
theorem bX8_held_0 : (dz_l cX8_held).drop 0 = lX8_held_0 := by decide +kernel
theorem bX8_held_1 : (dz_l cX8_held).drop 26 = lX8_held_1 := dz_dr (n := 26) bX8_held_0 rfl rfl
theorem bX8_held_2 : (dz_l cX8_held).drop 55 = lX8_held_2 := dz_dr (n := 29) bX8_held_1 rfl rfl
def lX8_cool_2 : List Nat := 28 :: 184 :: 0 :: 124 :: 172 :: []
def lX8_cool_1 : List Nat := 156 :: 0 :: 30 :: 42 :: 180 :: 0 :: 9 :: 6 :: 29 :: 79 :: 42 :: 27 :: 182 :: 0 :: 181 :: 153 :: 0 :: 7 :: 29 :: 167 :: 0 :: 4 :: 2 :: 61 :: 132 :: 3 :: 255 :: 167 :: 255 :: 224 :: lX8_cool_2
def lX8_cool_0 : List Nat := 27 :: 4 :: 16 :: 40 :: 184 :: 0 :: 83 :: 154 :: 0 :: 6 :: 18 :: 91 :: 172 :: 42 :: 182 :: 0 :: 169 :: 2 :: 61 :: 16 :: 99 :: 62 :: 29 :: 155 :: 0 :: 34 :: 28 :: lX8_cool_1
theorem bX8_cool_0 : (dz_l cX8_cool).drop 0 = lX8_cool_0 := by decide +kernel
theorem bX8_cool_1 : (dz_l cX8_cool).drop 27 = lX8_cool_1 := dz_dr (n := 27) bX8_cool_0 rfl rfl
theorem bX8_cool_2 : (dz_l cX8_cool).drop 57 = lX8_cool_2 := dz_dr (n := 30) bX8_cool_1 rfl rfl
def lX8_bought_3 : List Nat := 21 :: 5 :: 62 :: 21 :: 6 :: 54 :: 4 :: 132 :: 5 :: 1 :: 167 :: 255 :: 194 :: 29 :: 156 :: 0 :: 8 :: 18 :: 82 :: 167 :: 0 :: 13 :: 28 :: 154 :: 0 :: 7 :: 29 :: 167 :: 0 :: 5 :: 21 :: 4 :: 172 :: []
def lX8_bought_2 : List Nat := 27 :: 182 :: 0 :: 163 :: 42 :: 42 :: 21 :: 5 :: 4 :: 182 :: 0 :: 101 :: 182 :: 0 :: 143 :: 54 :: 6 :: 42 :: 182 :: 0 :: 175 :: 29 :: 155 :: 0 :: 10 :: 21 :: 6 :: 21 :: 4 :: 162 :: 0 :: 10 :: lX8_bought_3
def lX8_bought_1 : List Nat := 3 :: 54 :: 4 :: 3 :: 54 :: 5 :: 21 :: 5 :: 42 :: 180 :: 0 :: 9 :: 4 :: 46 :: 162 :: 0 :: 57 :: 42 :: 21 :: 5 :: 3 :: 8 :: 182 :: 0 :: 87 :: 42 :: lX8_bought_2
def lX8_bought_0 : List Nat := 27 :: 4 :: 16 :: 60 :: 184 :: 0 :: 83 :: 153 :: 0 :: 12 :: 28 :: 3 :: 4 :: 184 :: 0 :: 83 :: 154 :: 0 :: 6 :: 18 :: 91 :: 172 :: 42 :: 182 :: 0 :: 169 :: 2 :: 62 :: lX8_bought_1
theorem bX8_bought_0 : (dz_l cX8_bought).drop 0 = lX8_bought_0 := by decide +kernel
theorem bX8_bought_1 : (dz_l cX8_bought).drop 28 = lX8_bought_1 := dz_dr (n := 28) bX8_bought_0 rfl rfl
theorem bX8_bought_2 : (dz_l cX8_bought).drop 54 = lX8_bought_2 := dz_dr (n := 26) bX8_bought_1 rfl rfl
theorem bX8_bought_3 : (dz_l cX8_bought).drop 86 = lX8_bought_3 := dz_dr (n := 32) bX8_bought_2 rfl rfl
def lX8_offBy_4 : List Nat := 132 :: 6 :: 1 :: 167 :: 255 :: 170 :: 42 :: 182 :: 0 :: 175 :: 22 :: 4 :: 173 :: []
def lX8_offBy_3 : List Nat := 22 :: 4 :: 21 :: 7 :: 18 :: 82 :: 160 :: 0 :: 7 :: 9 :: 167 :: 0 :: 18 :: 22 :: 8 :: 9 :: 148 :: 156 :: 0 :: 9 :: 22 :: 8 :: 117 :: 167 :: 0 :: 5 :: 22 :: 8 :: 97 :: 55 :: 4 :: lX8_offBy_4
def lX8_offBy_2 : List Nat := 21 :: 7 :: 133 :: 21 :: 6 :: 7 :: 162 :: 0 :: 16 :: 42 :: 180 :: 0 :: 9 :: 16 :: 8 :: 21 :: 6 :: 96 :: 46 :: 167 :: 0 :: 4 :: 3 :: 133 :: 101 :: 55 :: 8 :: lX8_offBy_3
def lX8_offBy_1 : List Nat := 54 :: 6 :: 21 :: 6 :: 42 :: 180 :: 0 :: 58 :: 27 :: 46 :: 162 :: 0 :: 81 :: 42 :: 180 :: 0 :: 61 :: 16 :: 24 :: 27 :: 104 :: 21 :: 6 :: 96 :: 46 :: 54 :: 7 :: lX8_offBy_2
def lX8_offBy_0 : List Nat := 42 :: 180 :: 0 :: 9 :: 16 :: 12 :: 7 :: 28 :: 104 :: 96 :: 29 :: 96 :: 16 :: 9 :: 79 :: 42 :: 182 :: 0 :: 157 :: 9 :: 55 :: 4 :: 3 :: lX8_offBy_1
theorem bX8_offBy_0 : (dz_l cX8_offBy).drop 0 = lX8_offBy_0 := by decide +kernel
theorem bX8_offBy_1 : (dz_l cX8_offBy).drop 23 = lX8_offBy_1 := dz_dr (n := 23) bX8_offBy_0 rfl rfl
theorem bX8_offBy_2 : (dz_l cX8_offBy).drop 50 = lX8_offBy_2 := dz_dr (n := 27) bX8_offBy_1 rfl rfl
theorem bX8_offBy_3 : (dz_l cX8_offBy).drop 77 = lX8_offBy_3 := dz_dr (n := 27) bX8_offBy_2 rfl rfl
theorem bX8_offBy_4 : (dz_l cX8_offBy).drop 108 = lX8_offBy_4 := dz_dr (n := 31) bX8_offBy_3 rfl rfl
def lX8_cared_4 : List Nat := 167 :: 0 :: 6 :: 22 :: 5 :: 136 :: 172 :: []
def lX8_cared_3 : List Nat := 167 :: 0 :: 5 :: 21 :: 4 :: 54 :: 4 :: 22 :: 8 :: 22 :: 5 :: 148 :: 156 :: 0 :: 8 :: 22 :: 8 :: 167 :: 0 :: 5 :: 22 :: 5 :: 55 :: 5 :: 132 :: 7 :: 1 :: 167 :: 255 :: 203 :: 29 :: 154 :: 0 :: 8 :: 21 :: 4 :: lX8_cared_4
def lX8_cared_2 : List Nat := 4 :: 54 :: 7 :: 21 :: 7 :: 7 :: 162 :: 0 :: 53 :: 42 :: 27 :: 28 :: 21 :: 7 :: 182 :: 0 :: 188 :: 55 :: 8 :: 22 :: 8 :: 22 :: 5 :: 148 :: 156 :: 0 :: 8 :: 21 :: 7 :: lX8_cared_3
def lX8_cared_1 : List Nat := 180 :: 0 :: 55 :: 27 :: 46 :: 156 :: 0 :: 6 :: 18 :: 187 :: 172 :: 42 :: 182 :: 0 :: 169 :: 3 :: 54 :: 4 :: 42 :: 27 :: 28 :: 3 :: 182 :: 0 :: 188 :: 55 :: 5 :: lX8_cared_2
def lX8_cared_0 : List Nat := 27 :: 184 :: 0 :: 184 :: 153 :: 0 :: 21 :: 28 :: 3 :: 4 :: 184 :: 0 :: 83 :: 153 :: 0 :: 12 :: 29 :: 3 :: 4 :: 184 :: 0 :: 83 :: 154 :: 0 :: 6 :: 18 :: 91 :: 172 :: 42 :: lX8_cared_1
theorem bX8_cared_0 : (dz_l cX8_cared).drop 0 = lX8_cared_0 := by decide +kernel
theorem bX8_cared_1 : (dz_l cX8_cared).drop 29 = lX8_cared_1 := dz_dr (n := 29) bX8_cared_0 rfl rfl
theorem bX8_cared_2 : (dz_l cX8_cared).drop 56 = lX8_cared_2 := dz_dr (n := 27) bX8_cared_1 rfl rfl
theorem bX8_cared_3 : (dz_l cX8_cared).drop 85 = lX8_cared_3 := dz_dr (n := 29) bX8_cared_2 rfl rfl
theorem bX8_cared_4 : (dz_l cX8_cared).drop 121 = lX8_cared_4 := dz_dr (n := 36) bX8_cared_3 rfl rfl
def lX8_fee_1 : List Nat := 180 :: 0 :: 9 :: 5 :: 46 :: 79 :: 27 :: 156 :: 0 :: 13 :: 42 :: 180 :: 0 :: 9 :: 16 :: 6 :: 46 :: 167 :: 0 :: 8 :: 42 :: 27 :: 182 :: 0 :: 105 :: 172 :: []
def lX8_fee_0 : List Nat := 42 :: 4 :: 182 :: 0 :: 97 :: 60 :: 42 :: 180 :: 0 :: 52 :: 3 :: 42 :: 180 :: 0 :: 9 :: 16 :: 6 :: 46 :: 79 :: 42 :: 180 :: 0 :: 52 :: 4 :: 42 :: lX8_fee_1
theorem bX8_fee_0 : (dz_l cX8_fee).drop 0 = lX8_fee_0 := by decide +kernel
theorem bX8_fee_1 : (dz_l cX8_fee).drop 25 = lX8_fee_1 := dz_dr (n := 25) bX8_fee_0 rfl rfl
def lX8_fine_2 : List Nat := 167 :: 0 :: 8 :: 42 :: 28 :: 182 :: 0 :: 105 :: 172 :: []
def lX8_fine_1 : List Nat := 182 :: 0 :: 101 :: 79 :: 42 :: 180 :: 0 :: 52 :: 4 :: 42 :: 27 :: 6 :: 182 :: 0 :: 101 :: 79 :: 28 :: 156 :: 0 :: 12 :: 42 :: 27 :: 7 :: 182 :: 0 :: 101 :: lX8_fine_2
def lX8_fine_0 : List Nat := 42 :: 27 :: 182 :: 0 :: 114 :: 154 :: 0 :: 6 :: 18 :: 91 :: 172 :: 42 :: 5 :: 182 :: 0 :: 97 :: 61 :: 42 :: 180 :: 0 :: 52 :: 3 :: 42 :: 27 :: 7 :: lX8_fine_1
theorem bX8_fine_0 : (dz_l cX8_fine).drop 0 = lX8_fine_0 := by decide +kernel
theorem bX8_fine_1 : (dz_l cX8_fine).drop 25 = lX8_fine_1 := dz_dr (n := 25) bX8_fine_0 rfl rfl
theorem bX8_fine_2 : (dz_l cX8_fine).drop 51 = lX8_fine_2 := dz_dr (n := 26) bX8_fine_1 rfl rfl
def lX8_feed_3 : List Nat := 16 :: 12 :: 96 :: 181 :: 0 :: 192 :: 42 :: 180 :: 0 :: 192 :: 172 :: []
def lX8_feed_2 : List Nat := 16 :: 24 :: 16 :: 8 :: 21 :: 4 :: 7 :: 112 :: 104 :: 100 :: 122 :: 17 :: 0 :: 255 :: 126 :: 79 :: 132 :: 4 :: 1 :: 167 :: 255 :: 193 :: 42 :: 89 :: 180 :: 0 :: 192 :: lX8_feed_3
def lX8_feed_1 : List Nat := 27 :: 167 :: 0 :: 15 :: 21 :: 4 :: 16 :: 8 :: 162 :: 0 :: 7 :: 28 :: 167 :: 0 :: 4 :: 29 :: 54 :: 5 :: 42 :: 180 :: 0 :: 29 :: 42 :: 180 :: 0 :: 192 :: 21 :: 4 :: 96 :: 21 :: 5 :: lX8_feed_2
def lX8_feed_0 : List Nat := 42 :: 180 :: 0 :: 192 :: 16 :: 12 :: 96 :: 16 :: 96 :: 164 :: 0 :: 6 :: 18 :: 92 :: 172 :: 3 :: 54 :: 4 :: 21 :: 4 :: 16 :: 12 :: 162 :: 0 :: 62 :: 21 :: 4 :: 7 :: 162 :: 0 :: 7 :: lX8_feed_1
theorem bX8_feed_0 : (dz_l cX8_feed).drop 0 = lX8_feed_0 := by decide +kernel
theorem bX8_feed_1 : (dz_l cX8_feed).drop 31 = lX8_feed_1 := dz_dr (n := 31) bX8_feed_0 rfl rfl
theorem bX8_feed_2 : (dz_l cX8_feed).drop 62 = lX8_feed_2 := dz_dr (n := 31) bX8_feed_1 rfl rfl
theorem bX8_feed_3 : (dz_l cX8_feed).drop 89 = lX8_feed_3 := dz_dr (n := 27) bX8_feed_2 rfl rfl
def lX8_trim_0 : List Nat := 27 :: 3 :: 42 :: 180 :: 0 :: 192 :: 184 :: 0 :: 83 :: 154 :: 0 :: 6 :: 18 :: 91 :: 172 :: 42 :: 27 :: 181 :: 0 :: 192 :: 27 :: 172 :: []
theorem bX8_trim_0 : (dz_l cX8_trim).drop 0 = lX8_trim_0 := by decide +kernel
def lX8_isLetter_1 : List Nat := 4 :: 167 :: 0 :: 4 :: 3 :: 172 :: []
def lX8_isLetter_0 : List Nat := 27 :: 42 :: 180 :: 0 :: 192 :: 162 :: 0 :: 29 :: 42 :: 180 :: 0 :: 29 :: 27 :: 46 :: 16 :: 97 :: 161 :: 0 :: 18 :: 42 :: 180 :: 0 :: 29 :: 27 :: 46 :: 16 :: 122 :: 163 :: 0 :: 7 :: lX8_isLetter_1
theorem bX8_isLetter_0 : (dz_l cX8_isLetter).drop 0 = lX8_isLetter_0 := by decide +kernel
theorem bX8_isLetter_1 : (dz_l cX8_isLetter).drop 30 = lX8_isLetter_1 := dz_dr (n := 30) bX8_isLetter_0 rfl rfl
def lX8_isFigure_1 : List Nat := 4 :: 167 :: 0 :: 4 :: 3 :: 172 :: []
def lX8_isFigure_0 : List Nat := 27 :: 42 :: 180 :: 0 :: 192 :: 162 :: 0 :: 29 :: 42 :: 180 :: 0 :: 29 :: 27 :: 46 :: 16 :: 48 :: 161 :: 0 :: 18 :: 42 :: 180 :: 0 :: 29 :: 27 :: 46 :: 16 :: 57 :: 163 :: 0 :: 7 :: lX8_isFigure_1
theorem bX8_isFigure_0 : (dz_l cX8_isFigure).drop 0 = lX8_isFigure_0 := by decide +kernel
theorem bX8_isFigure_1 : (dz_l cX8_isFigure).drop 30 = lX8_isFigure_1 := dz_dr (n := 30) bX8_isFigure_0 rfl rfl
def lX8_go_9 : List Nat := 42 :: 180 :: 0 :: 29 :: 42 :: 180 :: 0 :: 198 :: 46 :: 181 :: 0 :: 210 :: 42 :: 89 :: 180 :: 0 :: 195 :: 4 :: 96 :: 181 :: 0 :: 195 :: 177 :: []
def lX8_go_8 : List Nat := 100 :: 7 :: 164 :: 0 :: 7 :: 7 :: 167 :: 0 :: 4 :: 5 :: 181 :: 0 :: 204 :: 42 :: 42 :: 180 :: 0 :: 195 :: 181 :: 0 :: 201 :: 167 :: 0 :: 31 :: 42 :: 6 :: 181 :: 0 :: 204 :: 42 :: lX8_go_9
def lX8_go_7 : List Nat := 180 :: 0 :: 210 :: 181 :: 0 :: 210 :: 42 :: 89 :: 180 :: 0 :: 195 :: 4 :: 96 :: 181 :: 0 :: 195 :: 167 :: 255 :: 191 :: 42 :: 27 :: 154 :: 0 :: 16 :: 42 :: 180 :: 0 :: 195 :: 42 :: 180 :: 0 :: 198 :: lX8_go_8
def lX8_go_6 : List Nat := 7 :: 162 :: 0 :: 26 :: 16 :: 10 :: 42 :: 180 :: 0 :: 210 :: 104 :: 42 :: 180 :: 0 :: 29 :: 42 :: 180 :: 0 :: 195 :: 46 :: 96 :: 16 :: 48 :: 100 :: 167 :: 0 :: 7 :: 42 :: lX8_go_7
def lX8_go_5 : List Nat := 182 :: 0 :: 213 :: 153 :: 0 :: 113 :: 42 :: 3 :: 181 :: 0 :: 210 :: 42 :: 42 :: 180 :: 0 :: 195 :: 182 :: 0 :: 213 :: 153 :: 0 :: 60 :: 42 :: 42 :: 180 :: 0 :: 195 :: 42 :: 180 :: 0 :: 198 :: 100 :: lX8_go_6
def lX8_go_4 : List Nat := 181 :: 0 :: 204 :: 42 :: 42 :: 180 :: 0 :: 29 :: 42 :: 180 :: 0 :: 198 :: 46 :: 181 :: 0 :: 210 :: 42 :: 42 :: 180 :: 0 :: 195 :: 181 :: 0 :: 201 :: 167 :: 0 :: 152 :: 42 :: 42 :: 180 :: 0 :: 198 :: lX8_go_5
def lX8_go_3 : List Nat := 180 :: 0 :: 195 :: 182 :: 0 :: 207 :: 153 :: 0 :: 16 :: 42 :: 89 :: 180 :: 0 :: 195 :: 4 :: 96 :: 181 :: 0 :: 195 :: 167 :: 255 :: 235 :: 42 :: 27 :: 153 :: 0 :: 7 :: 7 :: 167 :: 0 :: 4 :: 4 :: lX8_go_4
def lX8_go_2 : List Nat := 42 :: 180 :: 0 :: 198 :: 42 :: 180 :: 0 :: 192 :: 160 :: 0 :: 11 :: 42 :: 3 :: 181 :: 0 :: 204 :: 167 :: 0 :: 224 :: 42 :: 42 :: 180 :: 0 :: 198 :: 182 :: 0 :: 207 :: 153 :: 0 :: 64 :: 42 :: 42 :: lX8_go_3
def lX8_go_1 : List Nat := 96 :: 181 :: 0 :: 195 :: 167 :: 255 :: 221 :: 42 :: 42 :: 180 :: 0 :: 195 :: 181 :: 0 :: 198 :: 42 :: 180 :: 0 :: 198 :: 42 :: 180 :: 0 :: 201 :: 160 :: 0 :: 7 :: 4 :: 167 :: 0 :: 4 :: 3 :: 60 :: lX8_go_2
def lX8_go_0 : List Nat := 42 :: 180 :: 0 :: 195 :: 42 :: 180 :: 0 :: 192 :: 162 :: 0 :: 30 :: 42 :: 180 :: 0 :: 29 :: 42 :: 180 :: 0 :: 195 :: 46 :: 16 :: 32 :: 160 :: 0 :: 16 :: 42 :: 89 :: 180 :: 0 :: 195 :: 4 :: lX8_go_1
theorem bX8_go_0 : (dz_l cX8_go).drop 0 = lX8_go_0 := by decide +kernel
theorem bX8_go_1 : (dz_l cX8_go).drop 31 = lX8_go_1 := dz_dr (n := 31) bX8_go_0 rfl rfl
theorem bX8_go_2 : (dz_l cX8_go).drop 63 = lX8_go_2 := dz_dr (n := 32) bX8_go_1 rfl rfl
theorem bX8_go_3 : (dz_l cX8_go).drop 95 = lX8_go_3 := dz_dr (n := 32) bX8_go_2 rfl rfl
theorem bX8_go_4 : (dz_l cX8_go).drop 127 = lX8_go_4 := dz_dr (n := 32) bX8_go_3 rfl rfl
theorem bX8_go_5 : (dz_l cX8_go).drop 159 = lX8_go_5 := dz_dr (n := 32) bX8_go_4 rfl rfl
theorem bX8_go_6 : (dz_l cX8_go).drop 191 = lX8_go_6 := dz_dr (n := 32) bX8_go_5 rfl rfl
theorem bX8_go_7 : (dz_l cX8_go).drop 219 = lX8_go_7 := dz_dr (n := 28) bX8_go_6 rfl rfl
theorem bX8_go_8 : (dz_l cX8_go).drop 251 = lX8_go_8 := dz_dr (n := 32) bX8_go_7 rfl rfl
theorem bX8_go_9 : (dz_l cX8_go).drop 281 = lX8_go_9 := dz_dr (n := 30) bX8_go_8 rfl rfl
def lX8_takesKey_4 : List Nat := 29 :: 153 :: 0 :: 14 :: 42 :: 27 :: 181 :: 0 :: 216 :: 42 :: 182 :: 0 :: 219 :: 4 :: 172 :: 132 :: 1 :: 1 :: 167 :: 255 :: 144 :: 3 :: 172 :: []
def lX8_takesKey_3 : List Nat := 42 :: 180 :: 0 :: 32 :: 42 :: 180 :: 0 :: 36 :: 27 :: 46 :: 21 :: 4 :: 96 :: 52 :: 160 :: 0 :: 7 :: 4 :: 167 :: 0 :: 4 :: 3 :: 62 :: 132 :: 4 :: 1 :: 167 :: 255 :: 208 :: lX8_takesKey_4
def lX8_takesKey_2 : List Nat := 3 :: 62 :: 3 :: 54 :: 4 :: 21 :: 4 :: 28 :: 162 :: 0 :: 48 :: 29 :: 153 :: 0 :: 44 :: 42 :: 180 :: 0 :: 29 :: 42 :: 180 :: 0 :: 198 :: 21 :: 4 :: 96 :: 46 :: lX8_takesKey_3
def lX8_takesKey_1 : List Nat := 46 :: 42 :: 180 :: 0 :: 36 :: 27 :: 46 :: 100 :: 61 :: 28 :: 42 :: 180 :: 0 :: 195 :: 42 :: 180 :: 0 :: 198 :: 100 :: 160 :: 0 :: 7 :: 4 :: 167 :: 0 :: 4 :: lX8_takesKey_2
def lX8_takesKey_0 : List Nat := 42 :: 180 :: 0 :: 204 :: 4 :: 159 :: 0 :: 5 :: 3 :: 172 :: 3 :: 60 :: 27 :: 6 :: 162 :: 0 :: 113 :: 42 :: 180 :: 0 :: 36 :: 27 :: 4 :: 96 :: lX8_takesKey_1
theorem bX8_takesKey_0 : (dz_l cX8_takesKey).drop 0 = lX8_takesKey_0 := by decide +kernel
theorem bX8_takesKey_1 : (dz_l cX8_takesKey).drop 24 = lX8_takesKey_1 := dz_dr (n := 24) bX8_takesKey_0 rfl rfl
theorem bX8_takesKey_2 : (dz_l cX8_takesKey).drop 50 = lX8_takesKey_2 := dz_dr (n := 26) bX8_takesKey_1 rfl rfl
theorem bX8_takesKey_3 : (dz_l cX8_takesKey).drop 77 = lX8_takesKey_3 := dz_dr (n := 27) bX8_takesKey_2 rfl rfl
theorem bX8_takesKey_4 : (dz_l cX8_takesKey).drop 106 = lX8_takesKey_4 := dz_dr (n := 29) bX8_takesKey_3 rfl rfl
def lX8_nameOf_2 : List Nat := 16 :: 121 :: 160 :: 0 :: 7 :: 3 :: 167 :: 0 :: 14 :: 27 :: 16 :: 110 :: 160 :: 0 :: 7 :: 4 :: 167 :: 0 :: 4 :: 2 :: 172 :: []
def lX8_nameOf_1 : List Nat := 167 :: 0 :: 4 :: 2 :: 172 :: 27 :: 16 :: 108 :: 160 :: 0 :: 7 :: 3 :: 167 :: 0 :: 14 :: 27 :: 16 :: 112 :: 160 :: 0 :: 7 :: 4 :: 167 :: 0 :: 4 :: 2 :: 172 :: 27 :: lX8_nameOf_2
def lX8_nameOf_0 : List Nat := 42 :: 180 :: 0 :: 216 :: 171 :: 0 :: 0 :: 0 :: 0 :: 0 :: 0 :: 82 :: 0 :: 0 :: 0 :: 2 :: 0 :: 0 :: 0 :: 0 :: 0 :: 0 :: 0 :: 28 :: 0 :: 0 :: 0 :: 1 :: 0 :: 0 :: 0 :: 60 :: 27 :: 16 :: 112 :: 160 :: 0 :: 7 :: 3 :: 167 :: 0 :: 24 :: 27 :: 16 :: 104 :: 160 :: 0 :: 7 :: 4 :: 167 :: 0 :: 14 :: 27 :: 16 :: 115 :: 160 :: 0 :: 7 :: 5 :: lX8_nameOf_1
theorem bX8_nameOf_0 : (dz_l cX8_nameOf).drop 0 = lX8_nameOf_0 := by decide +kernel
theorem bX8_nameOf_1 : (dz_l cX8_nameOf).drop 59 = lX8_nameOf_1 := dz_dr (n := 59) bX8_nameOf_0 rfl rfl
theorem bX8_nameOf_2 : (dz_l cX8_nameOf).drop 87 = lX8_nameOf_2 := dz_dr (n := 28) bX8_nameOf_1 rfl rfl
def lX8_rank_1 : List Nat := 16 :: 249 :: 161 :: 0 :: 7 :: 7 :: 167 :: 0 :: 15 :: 26 :: 16 :: 247 :: 161 :: 0 :: 7 :: 8 :: 167 :: 0 :: 5 :: 16 :: 6 :: 172 :: []
def lX8_rank_0 : List Nat := 26 :: 2 :: 160 :: 0 :: 7 :: 4 :: 167 :: 0 :: 45 :: 26 :: 16 :: 254 :: 160 :: 0 :: 7 :: 5 :: 167 :: 0 :: 35 :: 26 :: 16 :: 251 :: 161 :: 0 :: 7 :: 6 :: 167 :: 0 :: 25 :: 26 :: lX8_rank_1
theorem bX8_rank_0 : (dz_l cX8_rank).drop 0 = lX8_rank_0 := by decide +kernel
theorem bX8_rank_1 : (dz_l cX8_rank).drop 30 = lX8_rank_1 := dz_dr (n := 30) bX8_rank_0 rfl rfl
def lX8_settle_2 : List Nat := 42 :: 180 :: 0 :: 42 :: 42 :: 180 :: 0 :: 222 :: 46 :: 79 :: 42 :: 89 :: 180 :: 0 :: 228 :: 4 :: 96 :: 181 :: 0 :: 228 :: 167 :: 255 :: 177 :: 177 :: []
def lX8_settle_1 : List Nat := 4 :: 100 :: 46 :: 184 :: 0 :: 225 :: 27 :: 161 :: 0 :: 44 :: 42 :: 89 :: 180 :: 0 :: 222 :: 4 :: 100 :: 181 :: 0 :: 222 :: 42 :: 180 :: 0 :: 39 :: 42 :: 180 :: 0 :: 228 :: lX8_settle_2
def lX8_settle_0 : List Nat := 42 :: 180 :: 0 :: 222 :: 158 :: 0 :: 78 :: 42 :: 180 :: 0 :: 42 :: 42 :: 180 :: 0 :: 222 :: 4 :: 100 :: 46 :: 16 :: 245 :: 159 :: 0 :: 62 :: 42 :: 180 :: 0 :: 42 :: 42 :: 180 :: 0 :: 222 :: lX8_settle_1
theorem bX8_settle_0 : (dz_l cX8_settle).drop 0 = lX8_settle_0 := by decide +kernel
theorem bX8_settle_1 : (dz_l cX8_settle).drop 31 = lX8_settle_1 := dz_dr (n := 31) bX8_settle_0 rfl rfl
theorem bX8_settle_2 : (dz_l cX8_settle).drop 59 = lX8_settle_2 := dz_dr (n := 28) bX8_settle_1 rfl rfl
def lX8_signHere_1 : List Nat := 16 :: 251 :: 172 :: 16 :: 250 :: 172 :: 16 :: 249 :: 172 :: 16 :: 248 :: 172 :: 16 :: 247 :: 172 :: 3 :: 172 :: []
def lX8_signHere_0 : List Nat := 42 :: 180 :: 0 :: 204 :: 6 :: 159 :: 0 :: 5 :: 3 :: 172 :: 42 :: 180 :: 0 :: 210 :: 171 :: 0 :: 0 :: 0 :: 0 :: 108 :: 0 :: 0 :: 0 :: 9 :: 0 :: 0 :: 0 :: 38 :: 0 :: 0 :: 0 :: 84 :: 0 :: 0 :: 0 :: 42 :: 0 :: 0 :: 0 :: 102 :: 0 :: 0 :: 0 :: 43 :: 0 :: 0 :: 0 :: 96 :: 0 :: 0 :: 0 :: 45 :: 0 :: 0 :: 0 :: 99 :: 0 :: 0 :: 0 :: 47 :: 0 :: 0 :: 0 :: 105 :: 0 :: 0 :: 0 :: 60 :: 0 :: 0 :: 0 :: 87 :: 0 :: 0 :: 0 :: 61 :: 0 :: 0 :: 0 :: 90 :: 0 :: 0 :: 0 :: 62 :: 0 :: 0 :: 0 :: 93 :: 0 :: 0 :: 0 :: 124 :: 0 :: 0 :: 0 :: 82 :: 2 :: 172 :: 16 :: 254 :: 172 :: 16 :: 253 :: 172 :: 16 :: 252 :: 172 :: lX8_signHere_1
theorem bX8_signHere_0 : (dz_l cX8_signHere).drop 0 = lX8_signHere_0 := by decide +kernel
theorem bX8_signHere_1 : (dz_l cX8_signHere).drop 107 = lX8_signHere_1 := dz_dr (n := 107) bX8_signHere_0 rfl rfl
def lX8_takesPart_4 : List Nat := 172 :: []
def lX8_takesPart_3 : List Nat := 180 :: 0 :: 228 :: 4 :: 96 :: 181 :: 0 :: 228 :: 42 :: 89 :: 180 :: 0 :: 234 :: 4 :: 96 :: 181 :: 0 :: 234 :: 42 :: 16 :: 6 :: 182 :: 0 :: 237 :: 42 :: 182 :: 0 :: 219 :: 4 :: lX8_takesPart_4
def lX8_takesPart_2 : List Nat := 42 :: 180 :: 0 :: 204 :: 5 :: 160 :: 0 :: 10 :: 42 :: 180 :: 0 :: 210 :: 167 :: 0 :: 15 :: 17 :: 39 :: 16 :: 42 :: 42 :: 180 :: 0 :: 210 :: 182 :: 0 :: 231 :: 96 :: 79 :: 42 :: 89 :: lX8_takesPart_3
def lX8_takesPart_1 : List Nat := 4 :: 167 :: 0 :: 4 :: 3 :: 60 :: 42 :: 180 :: 0 :: 204 :: 5 :: 159 :: 0 :: 9 :: 27 :: 154 :: 0 :: 5 :: 3 :: 172 :: 42 :: 180 :: 0 :: 39 :: 42 :: 180 :: 0 :: 228 :: lX8_takesPart_2
def lX8_takesPart_0 : List Nat := 42 :: 180 :: 0 :: 204 :: 4 :: 160 :: 0 :: 31 :: 42 :: 180 :: 0 :: 195 :: 42 :: 180 :: 0 :: 198 :: 100 :: 4 :: 160 :: 0 :: 18 :: 42 :: 42 :: 180 :: 0 :: 210 :: 182 :: 0 :: 231 :: 155 :: 0 :: 7 :: lX8_takesPart_1
theorem bX8_takesPart_0 : (dz_l cX8_takesPart).drop 0 = lX8_takesPart_0 := by decide +kernel
theorem bX8_takesPart_1 : (dz_l cX8_takesPart).drop 32 = lX8_takesPart_1 := dz_dr (n := 32) bX8_takesPart_0 rfl rfl
theorem bX8_takesPart_2 : (dz_l cX8_takesPart).drop 60 = lX8_takesPart_2 := dz_dr (n := 28) bX8_takesPart_1 rfl rfl
theorem bX8_takesPart_3 : (dz_l cX8_takesPart).drop 90 = lX8_takesPart_3 := dz_dr (n := 30) bX8_takesPart_2 rfl rfl
theorem bX8_takesPart_4 : (dz_l cX8_takesPart).drop 119 = lX8_takesPart_4 := dz_dr (n := 29) bX8_takesPart_3 rfl rfl
def lX8_takesE_12 : List Nat := 172 :: []
def lX8_takesE_11 : List Nat := 4 :: 96 :: 181 :: 0 :: 222 :: 4 :: 62 :: 42 :: 182 :: 0 :: 219 :: 167 :: 254 :: 198 :: 42 :: 3 :: 182 :: 0 :: 237 :: 27 :: 154 :: 0 :: 7 :: 4 :: 167 :: 0 :: 4 :: 3 :: lX8_takesE_12
def lX8_takesE_10 : List Nat := 167 :: 0 :: 4 :: 3 :: 84 :: 42 :: 21 :: 4 :: 184 :: 0 :: 225 :: 182 :: 0 :: 237 :: 42 :: 180 :: 0 :: 42 :: 42 :: 180 :: 0 :: 222 :: 21 :: 4 :: 79 :: 42 :: 89 :: 180 :: 0 :: 222 :: lX8_takesE_11
def lX8_takesE_9 : List Nat := 180 :: 0 :: 45 :: 27 :: 21 :: 4 :: 184 :: 0 :: 225 :: 6 :: 159 :: 0 :: 21 :: 21 :: 4 :: 184 :: 0 :: 225 :: 6 :: 164 :: 0 :: 16 :: 42 :: 180 :: 0 :: 45 :: 27 :: 51 :: 153 :: 0 :: 7 :: 4 :: lX8_takesE_10
def lX8_takesE_8 : List Nat := 182 :: 0 :: 246 :: 54 :: 4 :: 21 :: 4 :: 153 :: 0 :: 21 :: 21 :: 4 :: 184 :: 0 :: 225 :: 6 :: 160 :: 0 :: 14 :: 42 :: 180 :: 0 :: 45 :: 27 :: 51 :: 153 :: 0 :: 5 :: 3 :: 172 :: 42 :: lX8_takesE_9
def lX8_takesE_7 : List Nat := 89 :: 180 :: 0 :: 222 :: 4 :: 100 :: 181 :: 0 :: 222 :: 132 :: 1 :: 255 :: 42 :: 16 :: 6 :: 182 :: 0 :: 237 :: 42 :: 182 :: 0 :: 243 :: 61 :: 42 :: 182 :: 0 :: 219 :: 167 :: 255 :: 50 :: 42 :: lX8_takesE_8
def lX8_takesE_6 : List Nat := 61 :: 167 :: 255 :: 107 :: 42 :: 180 :: 0 :: 204 :: 6 :: 160 :: 0 :: 52 :: 42 :: 180 :: 0 :: 210 :: 16 :: 41 :: 160 :: 0 :: 43 :: 27 :: 158 :: 0 :: 39 :: 42 :: 3 :: 182 :: 0 :: 237 :: 42 :: lX8_takesE_7
def lX8_takesE_5 : List Nat := 27 :: 3 :: 84 :: 42 :: 182 :: 0 :: 219 :: 167 :: 0 :: 17 :: 42 :: 182 :: 0 :: 240 :: 153 :: 0 :: 8 :: 3 :: 62 :: 167 :: 0 :: 5 :: 3 :: 172 :: 42 :: 182 :: 0 :: 243 :: lX8_takesE_6
def lX8_takesE_4 : List Nat := 162 :: 0 :: 41 :: 42 :: 180 :: 0 :: 42 :: 42 :: 180 :: 0 :: 222 :: 16 :: 245 :: 79 :: 42 :: 89 :: 180 :: 0 :: 222 :: 4 :: 96 :: 181 :: 0 :: 222 :: 132 :: 1 :: 1 :: 42 :: 180 :: 0 :: 45 :: lX8_takesE_5
def lX8_takesE_3 : List Nat := 96 :: 181 :: 0 :: 222 :: 132 :: 2 :: 1 :: 42 :: 182 :: 0 :: 219 :: 167 :: 0 :: 78 :: 42 :: 180 :: 0 :: 204 :: 6 :: 160 :: 0 :: 56 :: 42 :: 180 :: 0 :: 210 :: 16 :: 40 :: 160 :: 0 :: 47 :: 27 :: 16 :: 8 :: lX8_takesE_4
def lX8_takesE_2 : List Nat := 180 :: 0 :: 210 :: 16 :: 33 :: 160 :: 0 :: 40 :: 28 :: 16 :: 8 :: 162 :: 0 :: 34 :: 42 :: 180 :: 0 :: 42 :: 42 :: 180 :: 0 :: 222 :: 16 :: 246 :: 79 :: 42 :: 89 :: 180 :: 0 :: 222 :: 4 :: lX8_takesE_3
def lX8_takesE_1 : List Nat := 180 :: 0 :: 45 :: 3 :: 3 :: 84 :: 29 :: 154 :: 0 :: 10 :: 42 :: 180 :: 0 :: 204 :: 153 :: 1 :: 53 :: 29 :: 153 :: 0 :: 140 :: 42 :: 180 :: 0 :: 204 :: 6 :: 160 :: 0 :: 49 :: 42 :: lX8_takesE_2
def lX8_takesE_0 : List Nat := 3 :: 60 :: 3 :: 61 :: 4 :: 62 :: 42 :: 3 :: 181 :: 0 :: 228 :: 42 :: 3 :: 181 :: 0 :: 234 :: 42 :: 3 :: 181 :: 0 :: 222 :: 42 :: lX8_takesE_1
theorem bX8_takesE_0 : (dz_l cX8_takesE).drop 0 = lX8_takesE_0 := by decide +kernel
theorem bX8_takesE_1 : (dz_l cX8_takesE).drop 22 = lX8_takesE_1 := dz_dr (n := 22) bX8_takesE_0 rfl rfl
theorem bX8_takesE_2 : (dz_l cX8_takesE).drop 52 = lX8_takesE_2 := dz_dr (n := 30) bX8_takesE_1 rfl rfl
theorem bX8_takesE_3 : (dz_l cX8_takesE).drop 83 = lX8_takesE_3 := dz_dr (n := 31) bX8_takesE_2 rfl rfl
theorem bX8_takesE_4 : (dz_l cX8_takesE).drop 117 = lX8_takesE_4 := dz_dr (n := 34) bX8_takesE_3 rfl rfl
theorem bX8_takesE_5 : (dz_l cX8_takesE).drop 148 = lX8_takesE_5 := dz_dr (n := 31) bX8_takesE_4 rfl rfl
theorem bX8_takesE_6 : (dz_l cX8_takesE).drop 176 = lX8_takesE_6 := dz_dr (n := 28) bX8_takesE_5 rfl rfl
theorem bX8_takesE_7 : (dz_l cX8_takesE).drop 207 = lX8_takesE_7 := dz_dr (n := 31) bX8_takesE_6 rfl rfl
theorem bX8_takesE_8 : (dz_l cX8_takesE).drop 238 = lX8_takesE_8 := dz_dr (n := 31) bX8_takesE_7 rfl rfl
theorem bX8_takesE_9 : (dz_l cX8_takesE).drop 269 = lX8_takesE_9 := dz_dr (n := 31) bX8_takesE_8 rfl rfl
theorem bX8_takesE_10 : (dz_l cX8_takesE).drop 301 = lX8_takesE_10 := dz_dr (n := 32) bX8_takesE_9 rfl rfl
theorem bX8_takesE_11 : (dz_l cX8_takesE).drop 331 = lX8_takesE_11 := dz_dr (n := 30) bX8_takesE_10 rfl rfl
theorem bX8_takesE_12 : (dz_l cX8_takesE).drop 359 = lX8_takesE_12 := dz_dr (n := 28) bX8_takesE_11 rfl rfl
def lX8_notsOpen_1 : List Nat := 167 :: 0 :: 4 :: 3 :: 96 :: 60 :: 132 :: 2 :: 1 :: 167 :: 255 :: 226 :: 27 :: 172 :: []
def lX8_notsOpen_0 : List Nat := 3 :: 60 :: 3 :: 61 :: 28 :: 42 :: 180 :: 0 :: 222 :: 162 :: 0 :: 28 :: 27 :: 42 :: 180 :: 0 :: 42 :: 28 :: 46 :: 16 :: 246 :: 160 :: 0 :: 7 :: 4 :: lX8_notsOpen_1
theorem bX8_notsOpen_0 : (dz_l cX8_notsOpen).drop 0 = lX8_notsOpen_0 := by decide +kernel
theorem bX8_notsOpen_1 : (dz_l cX8_notsOpen).drop 25 = lX8_notsOpen_1 := dz_dr (n := 25) bX8_notsOpen_0 rfl rfl
def lX8_text_6 : List Nat := 96 :: 79 :: 28 :: 172 :: []
def lX8_text_5 : List Nat := 96 :: 29 :: 96 :: 42 :: 180 :: 0 :: 39 :: 29 :: 46 :: 79 :: 132 :: 3 :: 1 :: 167 :: 255 :: 225 :: 42 :: 180 :: 0 :: 9 :: 16 :: 7 :: 92 :: 46 :: 4 :: lX8_text_6
def lX8_text_4 : List Nat := 96 :: 42 :: 180 :: 0 :: 234 :: 79 :: 3 :: 62 :: 29 :: 42 :: 180 :: 0 :: 228 :: 162 :: 0 :: 29 :: 42 :: 180 :: 0 :: 9 :: 16 :: 90 :: 16 :: 96 :: 28 :: 104 :: lX8_text_5
def lX8_text_3 : List Nat := 17 :: 3 :: 232 :: 42 :: 180 :: 0 :: 216 :: 104 :: 42 :: 180 :: 0 :: 228 :: 96 :: 79 :: 42 :: 180 :: 0 :: 9 :: 16 :: 62 :: 5 :: 28 :: 104 :: 96 :: 4 :: lX8_text_4
def lX8_text_2 : List Nat := 16 :: 14 :: 160 :: 0 :: 6 :: 18 :: 92 :: 172 :: 42 :: 180 :: 0 :: 9 :: 16 :: 7 :: 46 :: 61 :: 42 :: 180 :: 0 :: 9 :: 16 :: 62 :: 5 :: 28 :: 104 :: 96 :: lX8_text_3
def lX8_text_1 : List Nat := 3 :: 60 :: 42 :: 3 :: 181 :: 0 :: 192 :: 27 :: 154 :: 0 :: 11 :: 16 :: 156 :: 42 :: 180 :: 0 :: 198 :: 100 :: 172 :: 42 :: 180 :: 0 :: 9 :: 16 :: 7 :: 46 :: lX8_text_2
def lX8_text_0 : List Nat := 42 :: 3 :: 181 :: 0 :: 195 :: 42 :: 2 :: 181 :: 0 :: 201 :: 42 :: 182 :: 0 :: 219 :: 42 :: 182 :: 0 :: 249 :: 153 :: 0 :: 14 :: 42 :: 182 :: 0 :: 252 :: 153 :: 0 :: 7 :: 4 :: 167 :: 0 :: 4 :: lX8_text_1
theorem bX8_text_0 : (dz_l cX8_text).drop 0 = lX8_text_0 := by decide +kernel
theorem bX8_text_1 : (dz_l cX8_text).drop 32 = lX8_text_1 := dz_dr (n := 32) bX8_text_0 rfl rfl
theorem bX8_text_2 : (dz_l cX8_text).drop 58 = lX8_text_2 := dz_dr (n := 26) bX8_text_1 rfl rfl
theorem bX8_text_3 : (dz_l cX8_text).drop 84 = lX8_text_3 := dz_dr (n := 26) bX8_text_2 rfl rfl
theorem bX8_text_4 : (dz_l cX8_text).drop 109 = lX8_text_4 := dz_dr (n := 25) bX8_text_3 rfl rfl
theorem bX8_text_5 : (dz_l cX8_text).drop 135 = lX8_text_5 := dz_dr (n := 26) bX8_text_4 rfl rfl
theorem bX8_text_6 : (dz_l cX8_text).drop 160 = lX8_text_6 := dz_dr (n := 25) bX8_text_5 rfl rfl
def lX8_textTold_2 : List Nat := 16 :: 62 :: 5 :: 27 :: 104 :: 96 :: 4 :: 96 :: 46 :: 172 :: []
def lX8_textTold_1 : List Nat := 172 :: 28 :: 154 :: 0 :: 21 :: 42 :: 180 :: 0 :: 9 :: 16 :: 62 :: 5 :: 27 :: 104 :: 96 :: 46 :: 17 :: 3 :: 232 :: 108 :: 167 :: 0 :: 16 :: 42 :: 180 :: 0 :: 9 :: lX8_textTold_2
def lX8_textTold_0 : List Nat := 27 :: 3 :: 42 :: 180 :: 0 :: 9 :: 16 :: 7 :: 46 :: 4 :: 100 :: 184 :: 0 :: 83 :: 153 :: 0 :: 12 :: 28 :: 3 :: 4 :: 184 :: 0 :: 83 :: 154 :: 0 :: 6 :: 18 :: 91 :: lX8_textTold_1
theorem bX8_textTold_0 : (dz_l cX8_textTold).drop 0 = lX8_textTold_0 := by decide +kernel
theorem bX8_textTold_1 : (dz_l cX8_textTold).drop 28 = lX8_textTold_1 := dz_dr (n := 28) bX8_textTold_0 rfl rfl
theorem bX8_textTold_2 : (dz_l cX8_textTold).drop 55 = lX8_textTold_2 := dz_dr (n := 27) bX8_textTold_1 rfl rfl
def lX8_counts_1 : List Nat := 46 :: 17 :: 3 :: 232 :: 108 :: 27 :: 160 :: 0 :: 5 :: 28 :: 172 :: 132 :: 2 :: 255 :: 167 :: 255 :: 228 :: 2 :: 172 :: []
def lX8_counts_0 : List Nat := 42 :: 180 :: 0 :: 9 :: 16 :: 7 :: 46 :: 4 :: 100 :: 61 :: 28 :: 155 :: 0 :: 30 :: 42 :: 180 :: 0 :: 9 :: 16 :: 62 :: 5 :: 28 :: 104 :: 96 :: lX8_counts_1
theorem bX8_counts_0 : (dz_l cX8_counts).drop 0 = lX8_counts_0 := by decide +kernel
theorem bX8_counts_1 : (dz_l cX8_counts).drop 24 = lX8_counts_1 := dz_dr (n := 24) bX8_counts_0 rfl rfl
def lX8_why_1 : List Nat := 172 :: []
def lX8_why_0 : List Nat := 27 :: 3 :: 5 :: 184 :: 0 :: 83 :: 154 :: 0 :: 6 :: 18 :: 91 :: 172 :: 42 :: 27 :: 182 :: 0 :: 97 :: 61 :: 28 :: 156 :: 0 :: 8 :: 18 :: 82 :: 167 :: 0 :: 4 :: 28 :: lX8_why_1
theorem bX8_why_0 : (dz_l cX8_why).drop 0 = lX8_why_0 := by decide +kernel
theorem bX8_why_1 : (dz_l cX8_why).drop 28 = lX8_why_1 := dz_dr (n := 28) bX8_why_0 rfl rfl
def lX8_two_3 : List Nat := 104 :: 172 :: 28 :: 154 :: 0 :: 7 :: 3 :: 167 :: 0 :: 6 :: 27 :: 28 :: 108 :: 172 :: []
def lX8_two_2 : List Nat := 28 :: 164 :: 0 :: 7 :: 4 :: 167 :: 0 :: 4 :: 3 :: 172 :: 27 :: 28 :: 96 :: 172 :: 27 :: 28 :: 100 :: 172 :: 27 :: 28 :: lX8_two_3
def lX8_two_1 : List Nat := 172 :: 27 :: 28 :: 162 :: 0 :: 7 :: 4 :: 167 :: 0 :: 4 :: 3 :: 172 :: 27 :: 28 :: 160 :: 0 :: 7 :: 4 :: 167 :: 0 :: 4 :: 3 :: 172 :: 27 :: lX8_two_2
def lX8_two_0 : List Nat := 26 :: 170 :: 0 :: 0 :: 0 :: 0 :: 0 :: 120 :: 255 :: 255 :: 255 :: 248 :: 255 :: 255 :: 255 :: 255 :: 0 :: 0 :: 0 :: 116 :: 0 :: 0 :: 0 :: 112 :: 0 :: 0 :: 0 :: 108 :: 0 :: 0 :: 0 :: 97 :: 0 :: 0 :: 0 :: 86 :: 0 :: 0 :: 0 :: 75 :: 0 :: 0 :: 0 :: 61 :: 0 :: 0 :: 0 :: 47 :: 27 :: 154 :: 0 :: 7 :: 28 :: 153 :: 0 :: 7 :: 4 :: 167 :: 0 :: 4 :: 3 :: 172 :: 27 :: 153 :: 0 :: 11 :: 28 :: 153 :: 0 :: 7 :: 4 :: 167 :: 0 :: 4 :: 3 :: lX8_two_1
theorem bX8_two_0 : (dz_l cX8_two).drop 0 = lX8_two_0 := by decide +kernel
theorem bX8_two_1 : (dz_l cX8_two).drop 75 = lX8_two_1 := dz_dr (n := 75) bX8_two_0 rfl rfl
theorem bX8_two_2 : (dz_l cX8_two).drop 99 = lX8_two_2 := dz_dr (n := 24) bX8_two_1 rfl rfl
theorem bX8_two_3 : (dz_l cX8_two).drop 119 = lX8_two_3 := dz_dr (n := 20) bX8_two_2 rfl rfl
def lX8_worksOut_5 : List Nat := 46 :: 42 :: 180 :: 0 :: 49 :: 28 :: 46 :: 184 :: 0 :: 255 :: 79 :: 132 :: 4 :: 1 :: 167 :: 255 :: 125 :: 42 :: 180 :: 0 :: 49 :: 3 :: 46 :: 172 :: []
def lX8_worksOut_4 : List Nat := 167 :: 0 :: 4 :: 3 :: 79 :: 167 :: 0 :: 33 :: 132 :: 2 :: 255 :: 42 :: 180 :: 0 :: 49 :: 28 :: 4 :: 100 :: 21 :: 5 :: 42 :: 180 :: 0 :: 49 :: 28 :: 4 :: 100 :: lX8_worksOut_5
def lX8_worksOut_3 : List Nat := 21 :: 5 :: 16 :: 246 :: 160 :: 0 :: 30 :: 42 :: 180 :: 0 :: 49 :: 28 :: 4 :: 100 :: 42 :: 180 :: 0 :: 49 :: 28 :: 4 :: 100 :: 46 :: 154 :: 0 :: 7 :: 4 :: lX8_worksOut_4
def lX8_worksOut_2 : List Nat := 180 :: 0 :: 49 :: 28 :: 21 :: 5 :: 17 :: 39 :: 16 :: 162 :: 0 :: 8 :: 21 :: 5 :: 167 :: 0 :: 14 :: 42 :: 180 :: 0 :: 52 :: 21 :: 5 :: 17 :: 39 :: 16 :: 100 :: 46 :: 79 :: 132 :: 2 :: 1 :: 167 :: 0 :: 67 :: lX8_worksOut_3
def lX8_worksOut_1 : List Nat := 29 :: 162 :: 0 :: 131 :: 42 :: 180 :: 0 :: 9 :: 16 :: 90 :: 16 :: 96 :: 27 :: 104 :: 96 :: 21 :: 4 :: 96 :: 46 :: 54 :: 5 :: 21 :: 5 :: 155 :: 0 :: 39 :: 42 :: lX8_worksOut_2
def lX8_worksOut_0 : List Nat := 3 :: 61 :: 42 :: 180 :: 0 :: 9 :: 16 :: 62 :: 5 :: 27 :: 104 :: 96 :: 46 :: 17 :: 3 :: 232 :: 112 :: 62 :: 3 :: 54 :: 4 :: 21 :: 4 :: lX8_worksOut_1
theorem bX8_worksOut_0 : (dz_l cX8_worksOut).drop 0 = lX8_worksOut_0 := by decide +kernel
theorem bX8_worksOut_1 : (dz_l cX8_worksOut).drop 23 = lX8_worksOut_1 := dz_dr (n := 23) bX8_worksOut_0 rfl rfl
theorem bX8_worksOut_2 : (dz_l cX8_worksOut).drop 50 = lX8_worksOut_2 := dz_dr (n := 27) bX8_worksOut_1 rfl rfl
theorem bX8_worksOut_3 : (dz_l cX8_worksOut).drop 85 = lX8_worksOut_3 := dz_dr (n := 35) bX8_worksOut_2 rfl rfl
theorem bX8_worksOut_4 : (dz_l cX8_worksOut).drop 111 = lX8_worksOut_4 := dz_dr (n := 26) bX8_worksOut_3 rfl rfl
theorem bX8_worksOut_5 : (dz_l cX8_worksOut).drop 138 = lX8_worksOut_5 := dz_dr (n := 27) bX8_worksOut_4 rfl rfl
def lX8_isSheet_0 : List Nat := 26 :: 3 :: 6 :: 184 :: 0 :: 83 :: 172 :: []
theorem bX8_isSheet_0 : (dz_l cX8_isSheet).drop 0 = lX8_isSheet_0 := by decide +kernel
def lX8_isSlot_0 : List Nat := 26 :: 3 :: 7 :: 184 :: 0 :: 83 :: 172 :: []
theorem bX8_isSlot_0 : (dz_l cX8_isSlot).drop 0 = lX8_isSlot_0 := by decide +kernel
def lX8_sheet_3 : List Nat := 79 :: 132 :: 4 :: 1 :: 167 :: 255 :: 233 :: 42 :: 180 :: 0 :: 58 :: 27 :: 46 :: 172 :: []
def lX8_sheet_2 : List Nat := 167 :: 0 :: 4 :: 29 :: 79 :: 3 :: 54 :: 4 :: 21 :: 4 :: 16 :: 24 :: 162 :: 0 :: 22 :: 42 :: 180 :: 0 :: 61 :: 16 :: 24 :: 27 :: 104 :: 21 :: 4 :: 96 :: 3 :: lX8_sheet_3
def lX8_sheet_1 : List Nat := 155 :: 0 :: 11 :: 29 :: 156 :: 0 :: 7 :: 19 :: 1 :: 2 :: 172 :: 42 :: 180 :: 0 :: 55 :: 27 :: 28 :: 79 :: 42 :: 180 :: 0 :: 58 :: 27 :: 28 :: 156 :: 0 :: 7 :: 3 :: lX8_sheet_2
def lX8_sheet_0 : List Nat := 27 :: 184 :: 0 :: 184 :: 153 :: 0 :: 22 :: 28 :: 2 :: 4 :: 184 :: 0 :: 83 :: 153 :: 0 :: 13 :: 28 :: 155 :: 0 :: 12 :: 29 :: 16 :: 24 :: 164 :: 0 :: 6 :: 18 :: 91 :: 172 :: 28 :: lX8_sheet_1
theorem bX8_sheet_0 : (dz_l cX8_sheet).drop 0 = lX8_sheet_0 := by decide +kernel
theorem bX8_sheet_1 : (dz_l cX8_sheet).drop 30 = lX8_sheet_1 := dz_dr (n := 30) bX8_sheet_0 rfl rfl
theorem bX8_sheet_2 : (dz_l cX8_sheet).drop 58 = lX8_sheet_2 := dz_dr (n := 28) bX8_sheet_1 rfl rfl
theorem bX8_sheet_3 : (dz_l cX8_sheet).drop 85 = lX8_sheet_3 := dz_dr (n := 27) bX8_sheet_2 rfl rfl
def lX8_mark_4 : List Nat := 167 :: 0 :: 4 :: 29 :: 79 :: 4 :: 172 :: []
def lX8_mark_3 : List Nat := 18 :: 91 :: 172 :: 42 :: 180 :: 0 :: 61 :: 16 :: 24 :: 27 :: 104 :: 28 :: 96 :: 42 :: 180 :: 0 :: 55 :: 27 :: 46 :: 154 :: 0 :: 8 :: 29 :: 147 :: lX8_mark_4
def lX8_mark_2 : List Nat := 18 :: 134 :: 172 :: 42 :: 180 :: 0 :: 55 :: 27 :: 46 :: 4 :: 160 :: 0 :: 25 :: 29 :: 18 :: 82 :: 159 :: 0 :: 19 :: 29 :: 19 :: 1 :: 4 :: 19 :: 1 :: 5 :: 184 :: 0 :: 83 :: 154 :: 0 :: 6 :: lX8_mark_3
def lX8_mark_1 : List Nat := 27 :: 46 :: 4 :: 100 :: 184 :: 0 :: 83 :: 154 :: 0 :: 7 :: 19 :: 1 :: 3 :: 172 :: 42 :: 180 :: 0 :: 55 :: 27 :: 46 :: 154 :: 0 :: 12 :: 29 :: 18 :: 82 :: 160 :: 0 :: 6 :: lX8_mark_2
def lX8_mark_0 : List Nat := 27 :: 184 :: 0 :: 184 :: 154 :: 0 :: 6 :: 18 :: 91 :: 172 :: 42 :: 180 :: 0 :: 55 :: 27 :: 46 :: 156 :: 0 :: 6 :: 18 :: 187 :: 172 :: 28 :: 3 :: 42 :: 180 :: 0 :: 58 :: lX8_mark_1
theorem bX8_mark_0 : (dz_l cX8_mark).drop 0 = lX8_mark_0 := by decide +kernel
theorem bX8_mark_1 : (dz_l cX8_mark).drop 28 = lX8_mark_1 := dz_dr (n := 28) bX8_mark_0 rfl rfl
theorem bX8_mark_2 : (dz_l cX8_mark).drop 57 = lX8_mark_2 := dz_dr (n := 29) bX8_mark_1 rfl rfl
theorem bX8_mark_3 : (dz_l cX8_mark).drop 89 = lX8_mark_3 := dz_dr (n := 32) bX8_mark_2 rfl rfl
theorem bX8_mark_4 : (dz_l cX8_mark).drop 113 = lX8_mark_4 := dz_dr (n := 24) bX8_mark_3 rfl rfl
def lX8_pour_4 : List Nat := 167 :: 255 :: 173 :: 28 :: 172 :: []
def lX8_pour_3 : List Nat := 54 :: 5 :: 28 :: 42 :: 16 :: 8 :: 29 :: 96 :: 21 :: 5 :: 182 :: 0 :: 135 :: 21 :: 5 :: 160 :: 0 :: 7 :: 3 :: 167 :: 0 :: 4 :: 4 :: 96 :: 61 :: 132 :: 3 :: 1 :: lX8_pour_4
def lX8_pour_2 : List Nat := 46 :: 54 :: 4 :: 21 :: 4 :: 18 :: 82 :: 160 :: 0 :: 15 :: 42 :: 180 :: 0 :: 9 :: 16 :: 8 :: 29 :: 96 :: 46 :: 167 :: 0 :: 11 :: 21 :: 4 :: 3 :: 16 :: 9 :: 184 :: 0 :: 108 :: lX8_pour_3
def lX8_pour_1 : List Nat := 29 :: 42 :: 180 :: 0 :: 58 :: 27 :: 46 :: 162 :: 0 :: 79 :: 29 :: 7 :: 162 :: 0 :: 74 :: 42 :: 180 :: 0 :: 61 :: 16 :: 24 :: 27 :: 104 :: 29 :: 96 :: lX8_pour_2
def lX8_pour_0 : List Nat := 27 :: 184 :: 0 :: 184 :: 154 :: 0 :: 6 :: 18 :: 91 :: 172 :: 42 :: 180 :: 0 :: 55 :: 27 :: 46 :: 156 :: 0 :: 6 :: 18 :: 187 :: 172 :: 3 :: 61 :: 3 :: 62 :: lX8_pour_1
theorem bX8_pour_0 : (dz_l cX8_pour).drop 0 = lX8_pour_0 := by decide +kernel
theorem bX8_pour_1 : (dz_l cX8_pour).drop 26 = lX8_pour_1 := dz_dr (n := 26) bX8_pour_0 rfl rfl
theorem bX8_pour_2 : (dz_l cX8_pour).drop 51 = lX8_pour_2 := dz_dr (n := 25) bX8_pour_1 rfl rfl
theorem bX8_pour_3 : (dz_l cX8_pour).drop 81 = lX8_pour_3 := dz_dr (n := 30) bX8_pour_2 rfl rfl
theorem bX8_pour_4 : (dz_l cX8_pour).drop 109 = lX8_pour_4 := dz_dr (n := 28) bX8_pour_3 rfl rfl
def lX8_reads_3 : List Nat := 182 :: 0 :: 175 :: 28 :: 42 :: 180 :: 0 :: 58 :: 27 :: 46 :: 162 :: 0 :: 7 :: 28 :: 167 :: 0 :: 5 :: 18 :: 82 :: 172 :: []
def lX8_reads_2 : List Nat := 42 :: 180 :: 0 :: 61 :: 16 :: 24 :: 27 :: 104 :: 28 :: 96 :: 46 :: 42 :: 182 :: 0 :: 166 :: 160 :: 0 :: 13 :: 42 :: 182 :: 0 :: 157 :: 132 :: 2 :: 1 :: 167 :: 255 :: 205 :: 42 :: lX8_reads_3
def lX8_reads_1 : List Nat := 28 :: 42 :: 180 :: 0 :: 58 :: 27 :: 46 :: 162 :: 0 :: 47 :: 42 :: 180 :: 0 :: 61 :: 16 :: 24 :: 27 :: 104 :: 28 :: 96 :: 46 :: 18 :: 82 :: 159 :: 0 :: 21 :: lX8_reads_2
def lX8_reads_0 : List Nat := 27 :: 184 :: 0 :: 184 :: 154 :: 0 :: 6 :: 18 :: 91 :: 172 :: 42 :: 180 :: 0 :: 55 :: 27 :: 46 :: 156 :: 0 :: 6 :: 18 :: 187 :: 172 :: 42 :: 182 :: 0 :: 169 :: 3 :: 61 :: lX8_reads_1
theorem bX8_reads_0 : (dz_l cX8_reads).drop 0 = lX8_reads_0 := by decide +kernel
theorem bX8_reads_1 : (dz_l cX8_reads).drop 28 = lX8_reads_1 := dz_dr (n := 28) bX8_reads_0 rfl rfl
theorem bX8_reads_2 : (dz_l cX8_reads).drop 54 = lX8_reads_2 := dz_dr (n := 26) bX8_reads_1 rfl rfl
theorem bX8_reads_3 : (dz_l cX8_reads).drop 83 = lX8_reads_3 := dz_dr (n := 29) bX8_reads_2 rfl rfl
def lX8_copy_6 : List Nat := 167 :: 255 :: 224 :: 21 :: 5 :: 172 :: []
def lX8_copy_5 : List Nat := 162 :: 0 :: 31 :: 42 :: 180 :: 0 :: 61 :: 16 :: 24 :: 29 :: 104 :: 21 :: 4 :: 96 :: 21 :: 6 :: 96 :: 42 :: 180 :: 0 :: 76 :: 21 :: 6 :: 46 :: 79 :: 132 :: 6 :: 1 :: lX8_copy_6
def lX8_copy_4 : List Nat := 180 :: 0 :: 61 :: 16 :: 24 :: 27 :: 104 :: 28 :: 96 :: 21 :: 6 :: 96 :: 46 :: 79 :: 132 :: 6 :: 1 :: 167 :: 255 :: 225 :: 3 :: 54 :: 6 :: 21 :: 6 :: 21 :: 5 :: lX8_copy_5
def lX8_copy_3 : List Nat := 29 :: 46 :: 21 :: 5 :: 100 :: 164 :: 0 :: 7 :: 19 :: 1 :: 3 :: 172 :: 3 :: 54 :: 6 :: 21 :: 6 :: 21 :: 5 :: 162 :: 0 :: 30 :: 42 :: 180 :: 0 :: 76 :: 21 :: 6 :: 42 :: lX8_copy_4
def lX8_copy_2 : List Nat := 155 :: 0 :: 40 :: 21 :: 4 :: 155 :: 0 :: 35 :: 21 :: 5 :: 155 :: 0 :: 30 :: 28 :: 42 :: 180 :: 0 :: 58 :: 27 :: 46 :: 21 :: 5 :: 100 :: 163 :: 0 :: 17 :: 21 :: 4 :: 42 :: 180 :: 0 :: 58 :: lX8_copy_3
def lX8_copy_1 : List Nat := 46 :: 156 :: 0 :: 6 :: 18 :: 187 :: 172 :: 42 :: 180 :: 0 :: 55 :: 27 :: 46 :: 42 :: 180 :: 0 :: 55 :: 29 :: 46 :: 159 :: 0 :: 6 :: 18 :: 134 :: 172 :: 28 :: lX8_copy_2
def lX8_copy_0 : List Nat := 27 :: 184 :: 0 :: 184 :: 153 :: 0 :: 10 :: 29 :: 184 :: 0 :: 184 :: 154 :: 0 :: 6 :: 18 :: 91 :: 172 :: 42 :: 180 :: 0 :: 55 :: 27 :: 46 :: 155 :: 0 :: 12 :: 42 :: 180 :: 0 :: 55 :: 29 :: lX8_copy_1
theorem bX8_copy_0 : (dz_l cX8_copy).drop 0 = lX8_copy_0 := by decide +kernel
theorem bX8_copy_1 : (dz_l cX8_copy).drop 31 = lX8_copy_1 := dz_dr (n := 31) bX8_copy_0 rfl rfl
theorem bX8_copy_2 : (dz_l cX8_copy).drop 57 = lX8_copy_2 := dz_dr (n := 26) bX8_copy_1 rfl rfl
theorem bX8_copy_3 : (dz_l cX8_copy).drop 89 = lX8_copy_3 := dz_dr (n := 32) bX8_copy_2 rfl rfl
theorem bX8_copy_4 : (dz_l cX8_copy).drop 118 = lX8_copy_4 := dz_dr (n := 29) bX8_copy_3 rfl rfl
theorem bX8_copy_5 : (dz_l cX8_copy).drop 145 = lX8_copy_5 := dz_dr (n := 27) bX8_copy_4 rfl rfl
theorem bX8_copy_6 : (dz_l cX8_copy).drop 173 = lX8_copy_6 := dz_dr (n := 28) bX8_copy_5 rfl rfl
def lX8_lay_6 : List Nat := 21 :: 5 :: 96 :: 46 :: 79 :: 132 :: 5 :: 1 :: 167 :: 255 :: 217 :: 21 :: 4 :: 172 :: []
def lX8_lay_5 : List Nat := 162 :: 0 :: 38 :: 28 :: 5 :: 160 :: 0 :: 33 :: 42 :: 180 :: 0 :: 73 :: 16 :: 24 :: 27 :: 104 :: 21 :: 5 :: 96 :: 42 :: 180 :: 0 :: 61 :: 16 :: 24 :: 29 :: 104 :: lX8_lay_6
def lX8_lay_4 : List Nat := 42 :: 180 :: 0 :: 70 :: 27 :: 28 :: 4 :: 160 :: 0 :: 11 :: 42 :: 29 :: 182 :: 0 :: 127 :: 167 :: 0 :: 4 :: 3 :: 79 :: 3 :: 54 :: 5 :: 21 :: 5 :: 16 :: 24 :: lX8_lay_5
def lX8_lay_3 : List Nat := 160 :: 0 :: 12 :: 42 :: 29 :: 3 :: 182 :: 0 :: 101 :: 167 :: 0 :: 18 :: 28 :: 5 :: 160 :: 0 :: 12 :: 42 :: 180 :: 0 :: 58 :: 29 :: 46 :: 167 :: 0 :: 4 :: 29 :: 79 :: lX8_lay_4
def lX8_lay_2 : List Nat := 172 :: 42 :: 180 :: 0 :: 64 :: 27 :: 46 :: 54 :: 4 :: 42 :: 180 :: 0 :: 64 :: 27 :: 28 :: 79 :: 42 :: 180 :: 0 :: 67 :: 27 :: 28 :: 4 :: lX8_lay_3
def lX8_lay_1 : List Nat := 5 :: 160 :: 0 :: 13 :: 29 :: 184 :: 0 :: 184 :: 154 :: 0 :: 6 :: 18 :: 91 :: 172 :: 28 :: 5 :: 160 :: 0 :: 15 :: 42 :: 180 :: 0 :: 55 :: 29 :: 46 :: 156 :: 0 :: 6 :: 18 :: 187 :: lX8_lay_2
def lX8_lay_0 : List Nat := 27 :: 184 :: 1 :: 6 :: 153 :: 0 :: 37 :: 28 :: 3 :: 6 :: 184 :: 0 :: 83 :: 153 :: 0 :: 28 :: 28 :: 4 :: 160 :: 0 :: 11 :: 42 :: 29 :: 182 :: 0 :: 114 :: 153 :: 0 :: 15 :: 28 :: lX8_lay_1
theorem bX8_lay_0 : (dz_l cX8_lay).drop 0 = lX8_lay_0 := by decide +kernel
theorem bX8_lay_1 : (dz_l cX8_lay).drop 30 = lX8_lay_1 := dz_dr (n := 30) bX8_lay_0 rfl rfl
theorem bX8_lay_2 : (dz_l cX8_lay).drop 60 = lX8_lay_2 := dz_dr (n := 30) bX8_lay_1 rfl rfl
theorem bX8_lay_3 : (dz_l cX8_lay).drop 83 = lX8_lay_3 := dz_dr (n := 23) bX8_lay_2 rfl rfl
theorem bX8_lay_4 : (dz_l cX8_lay).drop 111 = lX8_lay_4 := dz_dr (n := 28) bX8_lay_3 rfl rfl
theorem bX8_lay_5 : (dz_l cX8_lay).drop 138 = lX8_lay_5 := dz_dr (n := 27) bX8_lay_4 rfl rfl
theorem bX8_lay_6 : (dz_l cX8_lay).drop 165 = lX8_lay_6 := dz_dr (n := 27) bX8_lay_5 rfl rfl
def lX8_ask_2 : List Nat := 27 :: 46 :: 167 :: 0 :: 5 :: 18 :: 134 :: 172 :: []
def lX8_ask_1 : List Nat := 172 :: 42 :: 180 :: 0 :: 64 :: 27 :: 46 :: 4 :: 160 :: 0 :: 25 :: 42 :: 180 :: 0 :: 67 :: 27 :: 46 :: 28 :: 184 :: 0 :: 130 :: 153 :: 0 :: 12 :: 42 :: 180 :: 0 :: 70 :: lX8_ask_2
def lX8_ask_0 : List Nat := 27 :: 184 :: 1 :: 6 :: 153 :: 0 :: 12 :: 28 :: 3 :: 8 :: 184 :: 0 :: 83 :: 154 :: 0 :: 6 :: 18 :: 91 :: 172 :: 42 :: 180 :: 0 :: 64 :: 27 :: 46 :: 154 :: 0 :: 6 :: 18 :: 187 :: lX8_ask_1
theorem bX8_ask_0 : (dz_l cX8_ask).drop 0 = lX8_ask_0 := by decide +kernel
theorem bX8_ask_1 : (dz_l cX8_ask).drop 30 = lX8_ask_1 := dz_dr (n := 30) bX8_ask_0 rfl rfl
theorem bX8_ask_2 : (dz_l cX8_ask).drop 58 = lX8_ask_2 := dz_dr (n := 28) bX8_ask_1 rfl rfl
def lX8_item_2 : List Nat := 42 :: 180 :: 0 :: 73 :: 16 :: 24 :: 27 :: 104 :: 28 :: 96 :: 46 :: 62 :: 29 :: 18 :: 82 :: 160 :: 0 :: 8 :: 18 :: 134 :: 167 :: 0 :: 4 :: 29 :: 172 :: []
def lX8_item_1 : List Nat := 5 :: 159 :: 0 :: 6 :: 18 :: 134 :: 172 :: 28 :: 3 :: 42 :: 180 :: 0 :: 67 :: 27 :: 46 :: 4 :: 100 :: 184 :: 0 :: 83 :: 154 :: 0 :: 7 :: 19 :: 1 :: 3 :: 172 :: lX8_item_2
def lX8_item_0 : List Nat := 27 :: 184 :: 1 :: 6 :: 154 :: 0 :: 6 :: 18 :: 91 :: 172 :: 42 :: 180 :: 0 :: 64 :: 27 :: 46 :: 154 :: 0 :: 6 :: 18 :: 187 :: 172 :: 42 :: 180 :: 0 :: 64 :: 27 :: 46 :: lX8_item_1
theorem bX8_item_0 : (dz_l cX8_item).drop 0 = lX8_item_0 := by decide +kernel
theorem bX8_item_1 : (dz_l cX8_item).drop 28 = lX8_item_1 := dz_dr (n := 28) bX8_item_0 rfl rfl
theorem bX8_item_2 : (dz_l cX8_item).drop 55 = lX8_item_2 := dz_dr (n := 27) bX8_item_1 rfl rfl
def lX8_rest_2 : List Nat := 46 :: 28 :: 112 :: 172 :: []
def lX8_rest_1 : List Nat := 6 :: 159 :: 0 :: 6 :: 18 :: 134 :: 172 :: 28 :: 154 :: 0 :: 9 :: 19 :: 1 :: 9 :: 167 :: 0 :: 20 :: 28 :: 2 :: 160 :: 0 :: 7 :: 3 :: 167 :: 0 :: 11 :: 42 :: 180 :: 0 :: 67 :: 27 :: lX8_rest_2
def lX8_rest_0 : List Nat := 27 :: 184 :: 1 :: 6 :: 154 :: 0 :: 6 :: 18 :: 91 :: 172 :: 42 :: 180 :: 0 :: 64 :: 27 :: 46 :: 154 :: 0 :: 6 :: 18 :: 187 :: 172 :: 42 :: 180 :: 0 :: 64 :: 27 :: 46 :: lX8_rest_1
theorem bX8_rest_0 : (dz_l cX8_rest).drop 0 = lX8_rest_0 := by decide +kernel
theorem bX8_rest_1 : (dz_l cX8_rest).drop 28 = lX8_rest_1 := dz_dr (n := 28) bX8_rest_0 rfl rfl
theorem bX8_rest_2 : (dz_l cX8_rest).drop 59 = lX8_rest_2 := dz_dr (n := 31) bX8_rest_1 rfl rfl
def lX8_tell_1 : List Nat := 96 :: 181 :: 1 :: 10 :: 42 :: 180 :: 1 :: 10 :: 172 :: []
def lX8_tell_0 : List Nat := 42 :: 180 :: 1 :: 10 :: 16 :: 60 :: 160 :: 0 :: 6 :: 18 :: 92 :: 172 :: 42 :: 180 :: 0 :: 79 :: 42 :: 180 :: 1 :: 10 :: 27 :: 79 :: 42 :: 89 :: 180 :: 1 :: 10 :: 4 :: lX8_tell_1
theorem bX8_tell_0 : (dz_l cX8_tell).drop 0 = lX8_tell_0 := by decide +kernel
theorem bX8_tell_1 : (dz_l cX8_tell).drop 28 = lX8_tell_1 := dz_dr (n := 28) bX8_tell_0 rfl rfl
def lX8_check_7 : List Nat := 4 :: 21 :: 4 :: 96 :: 172 :: []
def lX8_check_6 : List Nat := 54 :: 4 :: 132 :: 5 :: 1 :: 167 :: 255 :: 159 :: 42 :: 180 :: 0 :: 16 :: 42 :: 180 :: 0 :: 9 :: 184 :: 1 :: 17 :: 21 :: 4 :: 28 :: 160 :: 0 :: 13 :: 21 :: 4 :: 29 :: 160 :: 0 :: 7 :: 3 :: 167 :: 0 :: 7 :: lX8_check_7
def lX8_check_5 : List Nat := 21 :: 4 :: 28 :: 162 :: 0 :: 23 :: 42 :: 180 :: 0 :: 79 :: 21 :: 4 :: 46 :: 42 :: 180 :: 0 :: 9 :: 6 :: 46 :: 160 :: 0 :: 7 :: 4 :: 167 :: 0 :: 4 :: 3 :: 96 :: lX8_check_6
def lX8_check_4 : List Nat := 42 :: 182 :: 0 :: 166 :: 160 :: 0 :: 7 :: 4 :: 167 :: 0 :: 4 :: 3 :: 96 :: 54 :: 4 :: 21 :: 4 :: 21 :: 4 :: 5 :: 21 :: 5 :: 104 :: 4 :: 96 :: 160 :: 0 :: 29 :: lX8_check_5
def lX8_check_3 : List Nat := 162 :: 0 :: 95 :: 21 :: 4 :: 5 :: 21 :: 5 :: 104 :: 160 :: 0 :: 86 :: 42 :: 182 :: 0 :: 157 :: 21 :: 4 :: 21 :: 4 :: 28 :: 162 :: 0 :: 21 :: 42 :: 180 :: 0 :: 79 :: 21 :: 4 :: 46 :: lX8_check_4
def lX8_check_2 : List Nat := 5 :: 46 :: 100 :: 3 :: 27 :: 184 :: 0 :: 108 :: 104 :: 62 :: 3 :: 54 :: 4 :: 3 :: 54 :: 5 :: 5 :: 21 :: 5 :: 104 :: 29 :: lX8_check_3
def lX8_check_1 : List Nat := 19 :: 1 :: 9 :: 172 :: 42 :: 180 :: 0 :: 9 :: 42 :: 180 :: 0 :: 16 :: 184 :: 1 :: 17 :: 42 :: 180 :: 0 :: 13 :: 42 :: 180 :: 0 :: 9 :: 184 :: 1 :: 17 :: 5 :: 17 :: 39 :: 15 :: 42 :: 180 :: 0 :: 9 :: lX8_check_2
def lX8_check_0 : List Nat := 42 :: 180 :: 1 :: 10 :: 61 :: 42 :: 3 :: 181 :: 1 :: 10 :: 27 :: 4 :: 16 :: 30 :: 184 :: 0 :: 83 :: 154 :: 0 :: 6 :: 18 :: 91 :: 172 :: 42 :: 180 :: 1 :: 13 :: 154 :: 0 :: 7 :: lX8_check_1
theorem bX8_check_0 : (dz_l cX8_check).drop 0 = lX8_check_0 := by decide +kernel
theorem bX8_check_1 : (dz_l cX8_check).drop 30 = lX8_check_1 := dz_dr (n := 30) bX8_check_0 rfl rfl
theorem bX8_check_2 : (dz_l cX8_check).drop 64 = lX8_check_2 := dz_dr (n := 34) bX8_check_1 rfl rfl
theorem bX8_check_3 : (dz_l cX8_check).drop 85 = lX8_check_3 := dz_dr (n := 21) bX8_check_2 rfl rfl
theorem bX8_check_4 : (dz_l cX8_check).drop 116 = lX8_check_4 := dz_dr (n := 31) bX8_check_3 rfl rfl
theorem bX8_check_5 : (dz_l cX8_check).drop 144 = lX8_check_5 := dz_dr (n := 28) bX8_check_4 rfl rfl
theorem bX8_check_6 : (dz_l cX8_check).drop 172 = lX8_check_6 := dz_dr (n := 28) bX8_check_5 rfl rfl
theorem bX8_check_7 : (dz_l cX8_check).drop 207 = lX8_check_7 := dz_dr (n := 35) bX8_check_6 rfl rfl
def lX8_keep_0 : List Nat := 42 :: 180 :: 0 :: 9 :: 42 :: 180 :: 0 :: 13 :: 184 :: 1 :: 17 :: 42 :: 4 :: 181 :: 1 :: 13 :: 42 :: 180 :: 0 :: 9 :: 4 :: 46 :: 172 :: []
theorem bX8_keep_0 : (dz_l cX8_keep).drop 0 = lX8_keep_0 := by decide +kernel
def lX8_back_0 : List Nat := 42 :: 180 :: 1 :: 13 :: 154 :: 0 :: 7 :: 19 :: 1 :: 9 :: 172 :: 42 :: 180 :: 0 :: 13 :: 42 :: 180 :: 0 :: 9 :: 184 :: 1 :: 17 :: 42 :: 180 :: 0 :: 9 :: 4 :: 46 :: 172 :: []
theorem bX8_back_0 : (dz_l cX8_back).drop 0 = lX8_back_0 := by decide +kernel
def lX8_count_2 : List Nat := 46 :: 172 :: 18 :: 91 :: 172 :: []
def lX8_count_1 : List Nat := 46 :: 172 :: 42 :: 180 :: 0 :: 9 :: 16 :: 7 :: 46 :: 172 :: 42 :: 180 :: 1 :: 10 :: 172 :: 42 :: 180 :: 0 :: 192 :: 172 :: 42 :: 180 :: 0 :: 9 :: 3 :: lX8_count_2
def lX8_count_0 : List Nat := 27 :: 170 :: 0 :: 0 :: 0 :: 0 :: 0 :: 99 :: 0 :: 0 :: 0 :: 0 :: 0 :: 0 :: 0 :: 8 :: 0 :: 0 :: 0 :: 51 :: 0 :: 0 :: 0 :: 58 :: 0 :: 0 :: 0 :: 65 :: 0 :: 0 :: 0 :: 65 :: 0 :: 0 :: 0 :: 65 :: 0 :: 0 :: 0 :: 74 :: 0 :: 0 :: 0 :: 82 :: 0 :: 0 :: 0 :: 87 :: 0 :: 0 :: 0 :: 92 :: 42 :: 180 :: 0 :: 9 :: 4 :: 46 :: 172 :: 42 :: 180 :: 0 :: 9 :: 5 :: 46 :: 172 :: 42 :: 180 :: 0 :: 9 :: 4 :: 27 :: 96 :: lX8_count_1
theorem bX8_count_0 : (dz_l cX8_count).drop 0 = lX8_count_0 := by decide +kernel
theorem bX8_count_1 : (dz_l cX8_count).drop 73 = lX8_count_1 := dz_dr (n := 73) bX8_count_0 rfl rfl
theorem bX8_count_2 : (dz_l cX8_count).drop 98 = lX8_count_2 := dz_dr (n := 25) bX8_count_1 rfl rfl
def lJ0_length_8abf5_0 : List Nat := 42 :: 180 :: 0 :: 9 :: 190 :: 42 :: 182 :: 1 :: 79 :: 122 :: 172 :: []
theorem bJ0_length_8abf5_0 : (dz_l cJ0_length_8abf5).drop 0 = lJ0_length_8abf5_0 := by decide +kernel
def lJ0_charAt_5068e_0 : List Nat := 42 :: 182 :: 1 :: 236 :: 153 :: 0 :: 12 :: 42 :: 180 :: 0 :: 9 :: 27 :: 184 :: 1 :: 239 :: 172 :: 42 :: 180 :: 0 :: 9 :: 27 :: 184 :: 1 :: 242 :: 172 :: []
theorem bJ0_charAt_5068e_0 : (dz_l cJ0_charAt_5068e).drop 0 = lJ0_charAt_5068e_0 := by decide +kernel
def lJ0_indexOf_0f7a4_0 : List Nat := 42 :: 27 :: 3 :: 182 :: 2 :: 121 :: 172 :: []
theorem bJ0_indexOf_0f7a4_0 : (dz_l cJ0_indexOf_0f7a4).drop 0 = lJ0_indexOf_0f7a4_0 := by decide +kernel
def lJ0_indexOf_7cf53_0 : List Nat := 42 :: 182 :: 1 :: 236 :: 153 :: 0 :: 19 :: 42 :: 180 :: 0 :: 9 :: 27 :: 28 :: 42 :: 182 :: 1 :: 249 :: 184 :: 2 :: 125 :: 167 :: 0 :: 16 :: 42 :: 180 :: 0 :: 9 :: 27 :: 28 :: 42 :: 182 :: 1 :: 249 :: 184 :: 2 :: 128 :: 172 :: []
theorem bJ0_indexOf_7cf53_0 : (dz_l cJ0_indexOf_7cf53).drop 0 = lJ0_indexOf_7cf53_0 := by decide +kernel
def lJ0_coder_7d493_0 : List Nat := 178 :: 0 :: 38 :: 153 :: 0 :: 10 :: 42 :: 180 :: 0 :: 15 :: 167 :: 0 :: 4 :: 4 :: 172 :: []
theorem bJ0_coder_7d493_0 : (dz_l cJ0_coder_7d493).drop 0 = lJ0_coder_7d493_0 := by decide +kernel
def lJ0_isLatin1_aae02_0 : List Nat := 178 :: 0 :: 38 :: 153 :: 0 :: 14 :: 42 :: 180 :: 0 :: 15 :: 154 :: 0 :: 7 :: 4 :: 167 :: 0 :: 4 :: 3 :: 172 :: []
theorem bJ0_isLatin1_aae02_0 : (dz_l cJ0_isLatin1_aae02).drop 0 = lJ0_isLatin1_aae02_0 := by decide +kernel
def lJ0_checkIndex_df160_0 : List Nat := 26 :: 27 :: 178 :: 4 :: 29 :: 184 :: 4 :: 35 :: 87 :: 177 :: []
theorem bJ0_checkIndex_df160_0 : (dz_l cJ0_checkIndex_df160).drop 0 = lJ0_checkIndex_df160_0 := by decide +kernel
def lJ1_charAt_3b067_0 : List Nat := 27 :: 42 :: 190 :: 184 :: 0 :: 9 :: 42 :: 27 :: 51 :: 17 :: 0 :: 255 :: 126 :: 146 :: 172 :: []
theorem bJ1_charAt_3b067_0 : (dz_l cJ1_charAt_3b067).drop 0 = lJ1_charAt_3b067_0 := by decide +kernel
def lJ1_canEncode_9a6ad_0 : List Nat := 26 :: 155 :: 0 :: 14 :: 26 :: 17 :: 0 :: 255 :: 163 :: 0 :: 7 :: 4 :: 167 :: 0 :: 4 :: 3 :: 172 :: []
theorem bJ1_canEncode_9a6ad_0 : (dz_l cJ1_canEncode_9a6ad).drop 0 = lJ1_canEncode_9a6ad_0 := by decide +kernel
def lJ1_indexOf_4cfef_1 : List Nat := 27 :: 28 :: 29 :: 184 :: 0 :: 95 :: 172 :: []
def lJ1_indexOf_4cfef_0 : List Nat := 27 :: 184 :: 0 :: 88 :: 154 :: 0 :: 5 :: 2 :: 172 :: 28 :: 3 :: 184 :: 0 :: 92 :: 61 :: 29 :: 42 :: 190 :: 184 :: 0 :: 38 :: 62 :: 28 :: 29 :: 161 :: 0 :: 5 :: 2 :: 172 :: 42 :: lJ1_indexOf_4cfef_1
theorem bJ1_indexOf_4cfef_0 : (dz_l cJ1_indexOf_4cfef).drop 0 = lJ1_indexOf_4cfef_0 := by decide +kernel
theorem bJ1_indexOf_4cfef_1 : (dz_l cJ1_indexOf_4cfef).drop 30 = lJ1_indexOf_4cfef_1 := dz_dr (n := 30) bJ1_indexOf_4cfef_0 rfl rfl
def lJ1_indexOfChar_4cfef_1 : List Nat := 167 :: 255 :: 235 :: 2 :: 172 :: []
def lJ1_indexOfChar_4cfef_0 : List Nat := 27 :: 145 :: 54 :: 4 :: 28 :: 54 :: 5 :: 21 :: 5 :: 29 :: 162 :: 0 :: 21 :: 42 :: 21 :: 5 :: 51 :: 21 :: 4 :: 160 :: 0 :: 6 :: 21 :: 5 :: 172 :: 132 :: 5 :: 1 :: lJ1_indexOfChar_4cfef_1
theorem bJ1_indexOfChar_4cfef_0 : (dz_l cJ1_indexOfChar_4cfef).drop 0 = lJ1_indexOfChar_4cfef_0 := by decide +kernel
theorem bJ1_indexOfChar_4cfef_1 : (dz_l cJ1_indexOfChar_4cfef).drop 28 = lJ1_indexOfChar_4cfef_1 := dz_dr (n := 28) bJ1_indexOfChar_4cfef_0 rfl rfl
def lJ7_fill_53178_0 : List Nat := 3 :: 61 :: 42 :: 190 :: 62 :: 28 :: 29 :: 162 :: 0 :: 13 :: 42 :: 28 :: 27 :: 79 :: 132 :: 2 :: 1 :: 167 :: 255 :: 244 :: 177 :: []
theorem bJ7_fill_53178_0 : (dz_l cJ7_fill_53178).drop 0 = lJ7_fill_53178_0 := by decide +kernel
def lJ7_copyOf_59c91_1 : List Nat := 176 :: []
def lJ7_copyOf_59c91_0 : List Nat := 27 :: 42 :: 190 :: 160 :: 0 :: 11 :: 42 :: 182 :: 1 :: 60 :: 192 :: 1 :: 61 :: 176 :: 27 :: 188 :: 10 :: 77 :: 42 :: 3 :: 44 :: 3 :: 42 :: 190 :: 27 :: 184 :: 1 :: 48 :: 184 :: 0 :: 150 :: 44 :: lJ7_copyOf_59c91_1
theorem bJ7_copyOf_59c91_0 : (dz_l cJ7_copyOf_59c91).drop 0 = lJ7_copyOf_59c91_0 := by decide +kernel
theorem bJ7_copyOf_59c91_1 : (dz_l cJ7_copyOf_59c91).drop 32 = lJ7_copyOf_59c91_1 := dz_dr (n := 32) bJ7_copyOf_59c91_0 rfl rfl
def lJ3_checkIndex_8e157_0 : List Nat := 26 :: 155 :: 0 :: 8 :: 26 :: 27 :: 161 :: 0 :: 10 :: 44 :: 26 :: 27 :: 184 :: 0 :: 95 :: 191 :: 26 :: 172 :: []
theorem bJ3_checkIndex_8e157_0 : (dz_l cJ3_checkIndex_8e157).drop 0 = lJ3_checkIndex_8e157_0 := by decide +kernel
def lL_law_63 : List Nat := 172 :: []
def lL_law_62 : List Nat := 96 :: 46 :: 182 :: 0 :: 182 :: 44 :: 42 :: 29 :: 4 :: 96 :: 46 :: 182 :: 0 :: 185 :: 159 :: 0 :: 5 :: 3 :: 172 :: 132 :: 3 :: 6 :: 167 :: 250 :: 99 :: 4 :: lL_law_63
def lL_law_61 : List Nat := 87 :: 44 :: 182 :: 0 :: 177 :: 87 :: 167 :: 0 :: 39 :: 43 :: 182 :: 0 :: 178 :: 87 :: 44 :: 182 :: 0 :: 181 :: 87 :: 167 :: 0 :: 26 :: 43 :: 42 :: 29 :: 4 :: lL_law_62
def lL_law_60 : List Nat := 4 :: 96 :: 46 :: 182 :: 0 :: 170 :: 87 :: 44 :: 42 :: 29 :: 4 :: 96 :: 46 :: 182 :: 0 :: 173 :: 87 :: 167 :: 0 :: 52 :: 43 :: 182 :: 0 :: 174 :: lL_law_61
def lL_law_59 : List Nat := 96 :: 46 :: 182 :: 0 :: 166 :: 87 :: 44 :: 42 :: 29 :: 4 :: 96 :: 46 :: 182 :: 0 :: 169 :: 87 :: 167 :: 0 :: 75 :: 43 :: 42 :: 29 :: lL_law_60
def lL_law_58 : List Nat := 29 :: 4 :: 96 :: 46 :: 42 :: 29 :: 5 :: 96 :: 46 :: 182 :: 0 :: 165 :: 87 :: 167 :: 0 :: 98 :: 43 :: 42 :: 29 :: 4 :: lL_law_59
def lL_law_57 : List Nat := 167 :: 0 :: 131 :: 43 :: 42 :: 29 :: 4 :: 96 :: 46 :: 42 :: 29 :: 5 :: 96 :: 46 :: 182 :: 0 :: 162 :: 87 :: 44 :: 42 :: lL_law_58
def lL_law_56 : List Nat := 46 :: 182 :: 0 :: 158 :: 87 :: 44 :: 42 :: 29 :: 4 :: 96 :: 46 :: 42 :: 29 :: 5 :: 96 :: 46 :: 182 :: 0 :: 161 :: 87 :: lL_law_57
def lL_law_55 : List Nat := 5 :: 96 :: 46 :: 182 :: 0 :: 157 :: 87 :: 167 :: 0 :: 164 :: 43 :: 42 :: 29 :: 4 :: 96 :: 46 :: 42 :: 29 :: 5 :: 96 :: lL_law_56
def lL_law_54 : List Nat := 46 :: 42 :: 29 :: 5 :: 96 :: 46 :: 182 :: 0 :: 154 :: 87 :: 44 :: 42 :: 29 :: 4 :: 96 :: 46 :: 42 :: 29 :: lL_law_55
def lL_law_53 : List Nat := 5 :: 96 :: 46 :: 42 :: 29 :: 6 :: 96 :: 46 :: 182 :: 0 :: 153 :: 87 :: 167 :: 0 :: 197 :: 43 :: 42 :: 29 :: 4 :: 96 :: lL_law_54
def lL_law_52 : List Nat := 46 :: 42 :: 29 :: 6 :: 96 :: 46 :: 182 :: 0 :: 150 :: 87 :: 44 :: 42 :: 29 :: 4 :: 96 :: 46 :: 42 :: 29 :: lL_law_53
def lL_law_51 : List Nat := 8 :: 96 :: 46 :: 182 :: 0 :: 149 :: 87 :: 167 :: 0 :: 240 :: 43 :: 42 :: 29 :: 4 :: 96 :: 46 :: 42 :: 29 :: 5 :: 96 :: lL_law_52
def lL_law_50 : List Nat := 29 :: 5 :: 96 :: 46 :: 42 :: 29 :: 6 :: 96 :: 46 :: 42 :: 29 :: 7 :: 96 :: 46 :: 42 :: 29 :: lL_law_51
def lL_law_49 : List Nat := 96 :: 46 :: 42 :: 29 :: 8 :: 96 :: 46 :: 182 :: 0 :: 145 :: 87 :: 44 :: 42 :: 29 :: 4 :: 96 :: 46 :: 42 :: lL_law_50
def lL_law_48 : List Nat := 4 :: 96 :: 46 :: 42 :: 29 :: 5 :: 96 :: 46 :: 42 :: 29 :: 6 :: 96 :: 46 :: 42 :: 29 :: 7 :: lL_law_49
def lL_law_47 : List Nat := 96 :: 46 :: 182 :: 0 :: 141 :: 87 :: 44 :: 42 :: 29 :: 4 :: 96 :: 46 :: 182 :: 0 :: 144 :: 87 :: 167 :: 1 :: 47 :: 43 :: 42 :: 29 :: lL_law_48
def lL_law_46 : List Nat := 46 :: 182 :: 0 :: 137 :: 87 :: 44 :: 42 :: 29 :: 4 :: 96 :: 46 :: 182 :: 0 :: 140 :: 87 :: 167 :: 1 :: 70 :: 43 :: 42 :: 29 :: 4 :: lL_law_47
def lL_law_45 : List Nat := 5 :: 96 :: 46 :: 42 :: 29 :: 6 :: 96 :: 46 :: 182 :: 0 :: 136 :: 87 :: 167 :: 1 :: 93 :: 43 :: 42 :: 29 :: 4 :: 96 :: lL_law_46
def lL_law_44 : List Nat := 46 :: 42 :: 29 :: 6 :: 96 :: 46 :: 182 :: 0 :: 133 :: 87 :: 44 :: 42 :: 29 :: 4 :: 96 :: 46 :: 42 :: 29 :: lL_law_45
def lL_law_43 : List Nat := 6 :: 96 :: 46 :: 182 :: 0 :: 132 :: 87 :: 167 :: 1 :: 136 :: 43 :: 42 :: 29 :: 4 :: 96 :: 46 :: 42 :: 29 :: 5 :: 96 :: lL_law_44
def lL_law_42 : List Nat := 46 :: 182 :: 0 :: 129 :: 87 :: 44 :: 42 :: 29 :: 4 :: 96 :: 46 :: 42 :: 29 :: 5 :: 96 :: 46 :: 42 :: 29 :: lL_law_43
def lL_law_41 : List Nat := 167 :: 1 :: 179 :: 43 :: 42 :: 29 :: 4 :: 96 :: 46 :: 42 :: 29 :: 5 :: 96 :: 46 :: 42 :: 29 :: 6 :: 96 :: lL_law_42
def lL_law_40 : List Nat := 43 :: 42 :: 29 :: 4 :: 96 :: 46 :: 182 :: 0 :: 125 :: 87 :: 44 :: 42 :: 29 :: 4 :: 96 :: 46 :: 182 :: 0 :: 128 :: 87 :: lL_law_41
def lL_law_39 : List Nat := 182 :: 0 :: 121 :: 87 :: 44 :: 42 :: 29 :: 4 :: 96 :: 46 :: 42 :: 29 :: 5 :: 96 :: 46 :: 182 :: 0 :: 124 :: 87 :: 167 :: 1 :: 202 :: lL_law_40
def lL_law_38 : List Nat := 87 :: 44 :: 182 :: 0 :: 120 :: 87 :: 167 :: 1 :: 235 :: 43 :: 42 :: 29 :: 4 :: 96 :: 46 :: 42 :: 29 :: 5 :: 96 :: 46 :: lL_law_39
def lL_law_37 : List Nat := 4 :: 96 :: 46 :: 182 :: 0 :: 113 :: 87 :: 44 :: 42 :: 29 :: 4 :: 96 :: 46 :: 182 :: 0 :: 116 :: 87 :: 167 :: 1 :: 248 :: 43 :: 182 :: 0 :: 117 :: lL_law_38
def lL_law_36 : List Nat := 42 :: 29 :: 5 :: 96 :: 46 :: 42 :: 29 :: 6 :: 96 :: 46 :: 182 :: 0 :: 112 :: 87 :: 167 :: 2 :: 15 :: 43 :: 42 :: 29 :: lL_law_37
def lL_law_35 : List Nat := 5 :: 96 :: 46 :: 42 :: 29 :: 6 :: 96 :: 46 :: 182 :: 0 :: 109 :: 87 :: 44 :: 42 :: 29 :: 4 :: 96 :: 46 :: lL_law_36
def lL_law_34 : List Nat := 42 :: 29 :: 4 :: 96 :: 46 :: 182 :: 0 :: 108 :: 87 :: 167 :: 2 :: 58 :: 43 :: 42 :: 29 :: 4 :: 96 :: 46 :: 42 :: 29 :: lL_law_35
def lL_law_33 : List Nat := 43 :: 182 :: 0 :: 101 :: 87 :: 44 :: 182 :: 0 :: 104 :: 87 :: 167 :: 2 :: 81 :: 43 :: 42 :: 29 :: 4 :: 96 :: 46 :: 182 :: 0 :: 105 :: 87 :: 44 :: lL_law_34
def lL_law_32 : List Nat := 4 :: 96 :: 46 :: 42 :: 29 :: 5 :: 96 :: 46 :: 42 :: 29 :: 6 :: 96 :: 46 :: 182 :: 0 :: 100 :: 87 :: 167 :: 2 :: 94 :: lL_law_33
def lL_law_31 : List Nat := 46 :: 42 :: 29 :: 5 :: 96 :: 46 :: 42 :: 29 :: 6 :: 96 :: 46 :: 182 :: 0 :: 97 :: 87 :: 44 :: 42 :: 29 :: lL_law_32
def lL_law_30 : List Nat := 4 :: 96 :: 46 :: 42 :: 29 :: 5 :: 96 :: 46 :: 182 :: 0 :: 96 :: 87 :: 167 :: 2 :: 137 :: 43 :: 42 :: 29 :: 4 :: 96 :: lL_law_31
def lL_law_29 : List Nat := 43 :: 42 :: 29 :: 4 :: 96 :: 46 :: 42 :: 29 :: 5 :: 96 :: 46 :: 182 :: 0 :: 93 :: 87 :: 44 :: 42 :: 29 :: lL_law_30
def lL_law_28 : List Nat := 42 :: 29 :: 4 :: 96 :: 46 :: 182 :: 0 :: 89 :: 87 :: 44 :: 42 :: 29 :: 4 :: 96 :: 46 :: 182 :: 0 :: 92 :: 87 :: 167 :: 2 :: 170 :: lL_law_29
def lL_law_27 : List Nat := 29 :: 4 :: 96 :: 46 :: 182 :: 0 :: 85 :: 87 :: 44 :: 42 :: 29 :: 4 :: 96 :: 46 :: 182 :: 0 :: 88 :: 87 :: 167 :: 2 :: 193 :: 43 :: lL_law_28
def lL_law_26 : List Nat := 4 :: 96 :: 46 :: 182 :: 0 :: 81 :: 87 :: 44 :: 42 :: 29 :: 4 :: 96 :: 46 :: 182 :: 0 :: 84 :: 87 :: 167 :: 2 :: 216 :: 43 :: 42 :: lL_law_27
def lL_law_25 : List Nat := 42 :: 29 :: 4 :: 96 :: 46 :: 42 :: 29 :: 5 :: 96 :: 46 :: 182 :: 0 :: 80 :: 87 :: 167 :: 2 :: 239 :: 43 :: 42 :: 29 :: lL_law_26
def lL_law_24 : List Nat := 87 :: 167 :: 3 :: 16 :: 43 :: 42 :: 29 :: 4 :: 96 :: 46 :: 42 :: 29 :: 5 :: 96 :: 46 :: 182 :: 0 :: 77 :: 87 :: 44 :: lL_law_25
def lL_law_23 : List Nat := 167 :: 3 :: 39 :: 43 :: 42 :: 29 :: 4 :: 96 :: 46 :: 182 :: 0 :: 73 :: 87 :: 44 :: 42 :: 29 :: 4 :: 96 :: 46 :: 182 :: 0 :: 76 :: lL_law_24
def lL_law_22 : List Nat := 87 :: 44 :: 42 :: 29 :: 4 :: 96 :: 46 :: 182 :: 0 :: 67 :: 87 :: 167 :: 3 :: 52 :: 43 :: 182 :: 0 :: 68 :: 87 :: 44 :: 182 :: 0 :: 72 :: 87 :: lL_law_23
def lL_law_21 : List Nat := 44 :: 42 :: 29 :: 4 :: 96 :: 46 :: 182 :: 0 :: 63 :: 87 :: 167 :: 3 :: 75 :: 43 :: 42 :: 29 :: 4 :: 96 :: 46 :: 182 :: 0 :: 64 :: lL_law_22
def lL_law_20 : List Nat := 42 :: 29 :: 4 :: 96 :: 46 :: 182 :: 0 :: 59 :: 87 :: 167 :: 3 :: 98 :: 43 :: 42 :: 29 :: 4 :: 96 :: 46 :: 182 :: 0 :: 60 :: 87 :: lL_law_21
def lL_law_19 : List Nat := 29 :: 4 :: 96 :: 46 :: 182 :: 0 :: 55 :: 87 :: 167 :: 3 :: 121 :: 43 :: 42 :: 29 :: 4 :: 96 :: 46 :: 182 :: 0 :: 56 :: 87 :: 44 :: lL_law_20
def lL_law_18 : List Nat := 5 :: 96 :: 46 :: 182 :: 0 :: 50 :: 87 :: 167 :: 3 :: 144 :: 43 :: 42 :: 29 :: 4 :: 96 :: 46 :: 182 :: 0 :: 51 :: 87 :: 44 :: 42 :: lL_law_19
def lL_law_17 : List Nat := 46 :: 42 :: 29 :: 5 :: 96 :: 46 :: 182 :: 0 :: 47 :: 87 :: 44 :: 42 :: 29 :: 4 :: 96 :: 46 :: 42 :: 29 :: lL_law_18
def lL_law_16 : List Nat := 4 :: 96 :: 46 :: 42 :: 29 :: 5 :: 96 :: 46 :: 182 :: 0 :: 46 :: 87 :: 167 :: 3 :: 177 :: 43 :: 42 :: 29 :: 4 :: 96 :: lL_law_17
def lL_law_15 : List Nat := 43 :: 42 :: 29 :: 4 :: 96 :: 46 :: 42 :: 29 :: 5 :: 96 :: 46 :: 182 :: 0 :: 43 :: 87 :: 44 :: 42 :: 29 :: lL_law_16
def lL_law_14 : List Nat := 4 :: 96 :: 46 :: 42 :: 29 :: 5 :: 96 :: 46 :: 42 :: 29 :: 6 :: 96 :: 46 :: 182 :: 0 :: 42 :: 87 :: 167 :: 3 :: 210 :: lL_law_15
def lL_law_13 : List Nat := 46 :: 42 :: 29 :: 5 :: 96 :: 46 :: 42 :: 29 :: 6 :: 96 :: 46 :: 182 :: 0 :: 39 :: 87 :: 44 :: 42 :: 29 :: lL_law_14
def lL_law_12 : List Nat := 4 :: 96 :: 46 :: 42 :: 29 :: 5 :: 96 :: 46 :: 182 :: 0 :: 38 :: 87 :: 167 :: 3 :: 253 :: 43 :: 42 :: 29 :: 4 :: 96 :: lL_law_13
def lL_law_11 : List Nat := 43 :: 42 :: 29 :: 4 :: 96 :: 46 :: 42 :: 29 :: 5 :: 96 :: 46 :: 182 :: 0 :: 35 :: 87 :: 44 :: 42 :: 29 :: lL_law_12
def lL_law_10 : List Nat := 4 :: 96 :: 46 :: 42 :: 29 :: 5 :: 96 :: 46 :: 42 :: 29 :: 6 :: 96 :: 46 :: 182 :: 0 :: 34 :: 87 :: 167 :: 4 :: 30 :: lL_law_11
def lL_law_9 : List Nat := 46 :: 42 :: 29 :: 5 :: 96 :: 46 :: 42 :: 29 :: 6 :: 96 :: 46 :: 182 :: 0 :: 31 :: 87 :: 44 :: 42 :: 29 :: lL_law_10
def lL_law_8 : List Nat := 4 :: 96 :: 46 :: 42 :: 29 :: 5 :: 96 :: 46 :: 182 :: 0 :: 30 :: 87 :: 167 :: 4 :: 73 :: 43 :: 42 :: 29 :: 4 :: 96 :: lL_law_9
def lL_law_7 : List Nat := 43 :: 42 :: 29 :: 4 :: 96 :: 46 :: 42 :: 29 :: 5 :: 96 :: 46 :: 182 :: 0 :: 27 :: 87 :: 44 :: 42 :: 29 :: lL_law_8
def lL_law_6 : List Nat := 182 :: 0 :: 23 :: 87 :: 44 :: 42 :: 29 :: 4 :: 96 :: 46 :: 42 :: 29 :: 5 :: 96 :: 46 :: 182 :: 0 :: 26 :: 87 :: 167 :: 4 :: 106 :: lL_law_7
def lL_law_5 : List Nat := 96 :: 46 :: 182 :: 0 :: 22 :: 87 :: 167 :: 4 :: 139 :: 43 :: 42 :: 29 :: 4 :: 96 :: 46 :: 42 :: 29 :: 5 :: 96 :: 46 :: lL_law_6
def lL_law_4 : List Nat := 42 :: 29 :: 5 :: 96 :: 46 :: 182 :: 0 :: 18 :: 87 :: 44 :: 42 :: 29 :: 4 :: 96 :: 46 :: 42 :: 29 :: 5 :: lL_law_5
def lL_law_3 : List Nat := 96 :: 46 :: 42 :: 29 :: 6 :: 96 :: 46 :: 182 :: 0 :: 17 :: 87 :: 167 :: 4 :: 172 :: 43 :: 42 :: 29 :: 4 :: 96 :: 46 :: lL_law_4
def lL_law_2 : List Nat := 42 :: 29 :: 6 :: 96 :: 46 :: 182 :: 0 :: 13 :: 87 :: 44 :: 42 :: 29 :: 4 :: 96 :: 46 :: 42 :: 29 :: 5 :: lL_law_3
def lL_law_1 : List Nat := 42 :: 29 :: 46 :: 16 :: 63 :: 126 :: 170 :: 0 :: 0 :: 0 :: 0 :: 5 :: 139 :: 0 :: 0 :: 0 :: 0 :: 0 :: 0 :: 0 :: 41 :: 0 :: 0 :: 0 :: 183 :: 0 :: 0 :: 0 :: 226 :: 0 :: 0 :: 1 :: 3 :: 0 :: 0 :: 1 :: 36 :: 0 :: 0 :: 1 :: 69 :: 0 :: 0 :: 1 :: 112 :: 0 :: 0 :: 1 :: 145 :: 0 :: 0 :: 1 :: 188 :: 0 :: 0 :: 1 :: 221 :: 0 :: 0 :: 1 :: 254 :: 0 :: 0 :: 2 :: 21 :: 0 :: 0 :: 2 :: 44 :: 0 :: 0 :: 2 :: 67 :: 0 :: 0 :: 2 :: 90 :: 0 :: 0 :: 2 :: 103 :: 0 :: 0 :: 2 :: 126 :: 0 :: 0 :: 2 :: 159 :: 0 :: 0 :: 2 :: 182 :: 0 :: 0 :: 2 :: 205 :: 0 :: 0 :: 2 :: 228 :: 0 :: 0 :: 3 :: 5 :: 0 :: 0 :: 3 :: 48 :: 0 :: 0 :: 3 :: 61 :: 0 :: 0 :: 3 :: 84 :: 0 :: 0 :: 3 :: 127 :: 0 :: 0 :: 3 :: 150 :: 0 :: 0 :: 3 :: 163 :: 0 :: 0 :: 3 :: 196 :: 0 :: 0 :: 3 :: 219 :: 0 :: 0 :: 4 :: 6 :: 0 :: 0 :: 4 :: 49 :: 0 :: 0 :: 4 :: 72 :: 0 :: 0 :: 4 :: 95 :: 0 :: 0 :: 4 :: 158 :: 0 :: 0 :: 4 :: 201 :: 0 :: 0 :: 4 :: 234 :: 0 :: 0 :: 5 :: 11 :: 0 :: 0 :: 5 :: 44 :: 0 :: 0 :: 5 :: 67 :: 0 :: 0 :: 5 :: 90 :: 0 :: 0 :: 5 :: 103 :: 0 :: 0 :: 5 :: 116 :: 43 :: 42 :: 29 :: 4 :: 96 :: 46 :: 42 :: 29 :: 5 :: 96 :: 46 :: lL_law_2
def lL_law_0 : List Nat := 187 :: 0 :: 7 :: 89 :: 183 :: 0 :: 9 :: 76 :: 187 :: 0 :: 10 :: 89 :: 183 :: 0 :: 12 :: 77 :: 3 :: 62 :: 29 :: 42 :: 190 :: 16 :: 6 :: 100 :: 163 :: 5 :: 154 :: lL_law_1
theorem bL_law_0 : (dz_l cL_law).drop 0 = lL_law_0 := by decide +kernel
theorem bL_law_1 : (dz_l cL_law).drop 27 = lL_law_1 := dz_dr (n := 27) bL_law_0 rfl rfl
theorem bL_law_2 : (dz_l cL_law).drop 227 = lL_law_2 := dz_dr (n := 200) bL_law_1 rfl rfl
theorem bL_law_3 : (dz_l cL_law).drop 245 = lL_law_3 := dz_dr (n := 18) bL_law_2 rfl rfl
theorem bL_law_4 : (dz_l cL_law).drop 265 = lL_law_4 := dz_dr (n := 20) bL_law_3 rfl rfl
theorem bL_law_5 : (dz_l cL_law).drop 283 = lL_law_5 := dz_dr (n := 18) bL_law_4 rfl rfl
theorem bL_law_6 : (dz_l cL_law).drop 303 = lL_law_6 := dz_dr (n := 20) bL_law_5 rfl rfl
theorem bL_law_7 : (dz_l cL_law).drop 325 = lL_law_7 := dz_dr (n := 22) bL_law_6 rfl rfl
theorem bL_law_8 : (dz_l cL_law).drop 343 = lL_law_8 := dz_dr (n := 18) bL_law_7 rfl rfl
theorem bL_law_9 : (dz_l cL_law).drop 363 = lL_law_9 := dz_dr (n := 20) bL_law_8 rfl rfl
theorem bL_law_10 : (dz_l cL_law).drop 381 = lL_law_10 := dz_dr (n := 18) bL_law_9 rfl rfl
theorem bL_law_11 : (dz_l cL_law).drop 401 = lL_law_11 := dz_dr (n := 20) bL_law_10 rfl rfl
theorem bL_law_12 : (dz_l cL_law).drop 419 = lL_law_12 := dz_dr (n := 18) bL_law_11 rfl rfl
theorem bL_law_13 : (dz_l cL_law).drop 439 = lL_law_13 := dz_dr (n := 20) bL_law_12 rfl rfl
theorem bL_law_14 : (dz_l cL_law).drop 457 = lL_law_14 := dz_dr (n := 18) bL_law_13 rfl rfl
theorem bL_law_15 : (dz_l cL_law).drop 477 = lL_law_15 := dz_dr (n := 20) bL_law_14 rfl rfl
theorem bL_law_16 : (dz_l cL_law).drop 495 = lL_law_16 := dz_dr (n := 18) bL_law_15 rfl rfl
theorem bL_law_17 : (dz_l cL_law).drop 515 = lL_law_17 := dz_dr (n := 20) bL_law_16 rfl rfl
theorem bL_law_18 : (dz_l cL_law).drop 533 = lL_law_18 := dz_dr (n := 18) bL_law_17 rfl rfl
theorem bL_law_19 : (dz_l cL_law).drop 555 = lL_law_19 := dz_dr (n := 22) bL_law_18 rfl rfl
theorem bL_law_20 : (dz_l cL_law).drop 577 = lL_law_20 := dz_dr (n := 22) bL_law_19 rfl rfl
theorem bL_law_21 : (dz_l cL_law).drop 599 = lL_law_21 := dz_dr (n := 22) bL_law_20 rfl rfl
theorem bL_law_22 : (dz_l cL_law).drop 621 = lL_law_22 := dz_dr (n := 22) bL_law_21 rfl rfl
theorem bL_law_23 : (dz_l cL_law).drop 645 = lL_law_23 := dz_dr (n := 24) bL_law_22 rfl rfl
theorem bL_law_24 : (dz_l cL_law).drop 667 = lL_law_24 := dz_dr (n := 22) bL_law_23 rfl rfl
theorem bL_law_25 : (dz_l cL_law).drop 687 = lL_law_25 := dz_dr (n := 20) bL_law_24 rfl rfl
theorem bL_law_26 : (dz_l cL_law).drop 707 = lL_law_26 := dz_dr (n := 20) bL_law_25 rfl rfl
theorem bL_law_27 : (dz_l cL_law).drop 729 = lL_law_27 := dz_dr (n := 22) bL_law_26 rfl rfl
theorem bL_law_28 : (dz_l cL_law).drop 751 = lL_law_28 := dz_dr (n := 22) bL_law_27 rfl rfl
theorem bL_law_29 : (dz_l cL_law).drop 773 = lL_law_29 := dz_dr (n := 22) bL_law_28 rfl rfl
theorem bL_law_30 : (dz_l cL_law).drop 791 = lL_law_30 := dz_dr (n := 18) bL_law_29 rfl rfl
theorem bL_law_31 : (dz_l cL_law).drop 811 = lL_law_31 := dz_dr (n := 20) bL_law_30 rfl rfl
theorem bL_law_32 : (dz_l cL_law).drop 829 = lL_law_32 := dz_dr (n := 18) bL_law_31 rfl rfl
theorem bL_law_33 : (dz_l cL_law).drop 849 = lL_law_33 := dz_dr (n := 20) bL_law_32 rfl rfl
theorem bL_law_34 : (dz_l cL_law).drop 873 = lL_law_34 := dz_dr (n := 24) bL_law_33 rfl rfl
theorem bL_law_35 : (dz_l cL_law).drop 893 = lL_law_35 := dz_dr (n := 20) bL_law_34 rfl rfl
theorem bL_law_36 : (dz_l cL_law).drop 911 = lL_law_36 := dz_dr (n := 18) bL_law_35 rfl rfl
theorem bL_law_37 : (dz_l cL_law).drop 931 = lL_law_37 := dz_dr (n := 20) bL_law_36 rfl rfl
theorem bL_law_38 : (dz_l cL_law).drop 955 = lL_law_38 := dz_dr (n := 24) bL_law_37 rfl rfl
theorem bL_law_39 : (dz_l cL_law).drop 975 = lL_law_39 := dz_dr (n := 20) bL_law_38 rfl rfl
theorem bL_law_40 : (dz_l cL_law).drop 997 = lL_law_40 := dz_dr (n := 22) bL_law_39 rfl rfl
theorem bL_law_41 : (dz_l cL_law).drop 1017 = lL_law_41 := dz_dr (n := 20) bL_law_40 rfl rfl
theorem bL_law_42 : (dz_l cL_law).drop 1035 = lL_law_42 := dz_dr (n := 18) bL_law_41 rfl rfl
theorem bL_law_43 : (dz_l cL_law).drop 1053 = lL_law_43 := dz_dr (n := 18) bL_law_42 rfl rfl
theorem bL_law_44 : (dz_l cL_law).drop 1073 = lL_law_44 := dz_dr (n := 20) bL_law_43 rfl rfl
theorem bL_law_45 : (dz_l cL_law).drop 1091 = lL_law_45 := dz_dr (n := 18) bL_law_44 rfl rfl
theorem bL_law_46 : (dz_l cL_law).drop 1111 = lL_law_46 := dz_dr (n := 20) bL_law_45 rfl rfl
theorem bL_law_47 : (dz_l cL_law).drop 1133 = lL_law_47 := dz_dr (n := 22) bL_law_46 rfl rfl
theorem bL_law_48 : (dz_l cL_law).drop 1155 = lL_law_48 := dz_dr (n := 22) bL_law_47 rfl rfl
theorem bL_law_49 : (dz_l cL_law).drop 1171 = lL_law_49 := dz_dr (n := 16) bL_law_48 rfl rfl
theorem bL_law_50 : (dz_l cL_law).drop 1189 = lL_law_50 := dz_dr (n := 18) bL_law_49 rfl rfl
theorem bL_law_51 : (dz_l cL_law).drop 1205 = lL_law_51 := dz_dr (n := 16) bL_law_50 rfl rfl
theorem bL_law_52 : (dz_l cL_law).drop 1225 = lL_law_52 := dz_dr (n := 20) bL_law_51 rfl rfl
theorem bL_law_53 : (dz_l cL_law).drop 1243 = lL_law_53 := dz_dr (n := 18) bL_law_52 rfl rfl
theorem bL_law_54 : (dz_l cL_law).drop 1263 = lL_law_54 := dz_dr (n := 20) bL_law_53 rfl rfl
theorem bL_law_55 : (dz_l cL_law).drop 1281 = lL_law_55 := dz_dr (n := 18) bL_law_54 rfl rfl
theorem bL_law_56 : (dz_l cL_law).drop 1301 = lL_law_56 := dz_dr (n := 20) bL_law_55 rfl rfl
theorem bL_law_57 : (dz_l cL_law).drop 1321 = lL_law_57 := dz_dr (n := 20) bL_law_56 rfl rfl
theorem bL_law_58 : (dz_l cL_law).drop 1341 = lL_law_58 := dz_dr (n := 20) bL_law_57 rfl rfl
theorem bL_law_59 : (dz_l cL_law).drop 1361 = lL_law_59 := dz_dr (n := 20) bL_law_58 rfl rfl
theorem bL_law_60 : (dz_l cL_law).drop 1383 = lL_law_60 := dz_dr (n := 22) bL_law_59 rfl rfl
theorem bL_law_61 : (dz_l cL_law).drop 1407 = lL_law_61 := dz_dr (n := 24) bL_law_60 rfl rfl
theorem bL_law_62 : (dz_l cL_law).drop 1433 = lL_law_62 := dz_dr (n := 26) bL_law_61 rfl rfl
theorem bL_law_63 : (dz_l cL_law).drop 1459 = lL_law_63 := dz_dr (n := 26) bL_law_62 rfl rfl
