theorem hi_X8_word_8 : ∀ w ∈ u_ws RX8 TX8 38, w ∈ wsX8_word := fun w h => (goodIn_r (u_ws RX8 TX8 38) [7, 8, 9, 10, 11, 12, 13, 14, 15, 16, 17, 18, 19, 20, 21, 22, 23, 24, 25, 26, 27, 28, 29, 30, 31, 32, 33, 34, 35, 36, 37, 38, 39, 40, 41, 42, 43, 44] rfl (by decide +kernel) w h).1

