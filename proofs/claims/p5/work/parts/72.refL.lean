theorem hi_X8_item_8 : ∀ w ∈ u_ws RX8 TX8 38, w ∈ wsX8_item := fun w h => (goodIn_r (u_ws RX8 TX8 38) [68, 69, 70, 71, 72, 73, 74, 75, 76, 77, 78, 79, 80, 81, 82, 83, 84, 85, 86, 87, 88, 89, 90, 91, 92, 93, 94, 95, 96, 97, 98, 99, 100, 101, 102, 103, 104, 105] rfl (by decide +kernel) w h).1

