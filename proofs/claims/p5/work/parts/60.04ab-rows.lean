theorem dX5_readAll_57 : decode cX5_readAll 57 = .ok (.goto 94, 3) := by decide +kernel
