theorem hi_X8_image_8 : ∀ w ∈ u_ws RX8 TX8 38, w ∈ wsX8_image := fun w h => (gl_X8_image_X80 w h).1
theorem hi_X8_restore_8 : ∀ w ∈ u_ws RX8 TX8 38, w ∈ wsX8_restore := fun w h => (gl_X8_restore_X80 w h).1
