/-! reads of final fields across the nest -/
theorem wz_X11_193 : (Jvm.Cond.fieldLinkNest "TwoRopes" (193 : Nat) "TwoRopes$Hall" "corners" "[I" "TwoRopes") ∈ lw_n := pv_wn1 42 (by decide +kernel)
theorem fg_X11_193_4 : pv_FG RX11 193 4 0 (.array .int) := ⟨(RX4, TX4, 7), "TwoRopes$Hall", rfl, by decide, rfl, Or.inr ⟨"TwoRopes", wz_X11_193⟩, Or.inl rfl⟩
theorem wz_X11_368 : (Jvm.Cond.fieldLinkNest "TwoRopes" (368 : Nat) "TwoRopes$Search" "best" "[I" "TwoRopes") ∈ lw_n := pv_wn1 84 (by decide +kernel)
theorem fg_X11_368_7 : pv_FG RX11 368 7 4 (.array .int) := ⟨(RX7, TX7, 12), "TwoRopes$Search", rfl, by decide, rfl, Or.inr ⟨"TwoRopes", wz_X11_368⟩, Or.inl rfl⟩
theorem wz_X11_291 : (Jvm.Cond.fieldLinkNest "TwoRopes" (291 : Nat) "TwoRopes$Crowd" "ps" "[J" "TwoRopes") ∈ lw_n := pv_wn1 127 (by decide +kernel)
theorem fg_X11_291_2 : pv_FG RX11 291 2 0 (.array .long) := ⟨(RX2, TX2, 6), "TwoRopes$Crowd", rfl, by decide, rfl, Or.inr ⟨"TwoRopes", wz_X11_291⟩, Or.inl rfl⟩
theorem wz_X11_294 : (Jvm.Cond.fieldLinkNest "TwoRopes" (294 : Nat) "TwoRopes$Crowd" "qs" "[J" "TwoRopes") ∈ lw_n := pv_wn1 129 (by decide +kernel)
theorem fg_X11_294_2 : pv_FG RX11 294 2 1 (.array .long) := ⟨(RX2, TX2, 6), "TwoRopes$Crowd", rfl, by decide, rfl, Or.inr ⟨"TwoRopes", wz_X11_294⟩, Or.inl rfl⟩
theorem wz_X11_100 : (Jvm.Cond.fieldLinkNest "TwoRopes" (100 : Nat) "TwoRopes$Shelf" "cells" "[J" "TwoRopes") ∈ lw_n := pv_wn1 155 (by decide +kernel)
theorem fg_X11_100_8 : pv_FG RX11 100 8 0 (.array .long) := ⟨(RX8, TX8, 7), "TwoRopes$Shelf", rfl, by decide, rfl, Or.inr ⟨"TwoRopes", wz_X11_100⟩, Or.inl rfl⟩
