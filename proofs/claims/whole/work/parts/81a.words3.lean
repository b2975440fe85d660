/-! WORDS: long constants. -/
theorem kl_X11_185 : Cond.constantLong RX11 185 (255) ∈ allW := mw6 125 rfl rfl
theorem kl_X11_243 : Cond.constantLong RX11 243 (67) ∈ allW := mw6 126 rfl rfl
theorem kl_X11_234 : Cond.constantLong RX11 234 (76) ∈ allW := mw6 139 rfl rfl
theorem kl_X11_191 : Cond.constantLong RX11 191 (84) ∈ allW := mw6 156 rfl rfl
theorem kl_X11_316 : Cond.constantLong RX11 316 (2) ∈ allW := mw6 231 rfl rfl
