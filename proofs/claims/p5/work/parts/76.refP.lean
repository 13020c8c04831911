theorem hi_X8_image_8 : ∀ w ∈ u_ws RX8 TX8 38, w ∈ wsX8_image := fun w h => (goodIn_r (u_ws RX8 TX8 38) [27, 28, 29, 30, 31, 32, 33, 34, 35, 36, 37, 38, 39, 40, 41, 42, 43, 44, 45, 46, 47, 48, 49, 50, 51, 52, 53, 54, 55, 56, 57, 58, 59, 60, 61, 62, 63, 64] rfl (by decide +kernel) w h).1
theorem hi_X8_restore_8 : ∀ w ∈ u_ws RX8 TX8 38, w ∈ wsX8_restore := fun w h => (goodIn_r (u_ws RX8 TX8 38) [34, 35, 36, 37, 38, 39, 40, 41, 42, 43, 44, 45, 46, 47, 48, 49, 50, 51, 52, 53, 54, 55, 56, 57, 58, 59, 60, 61, 62, 63, 64, 65, 66, 67, 68, 69, 70, 71] rfl (by decide +kernel) w h).1

