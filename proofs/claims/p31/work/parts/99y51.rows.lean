theorem assoc3 (w wr O T : va_W) : w ++ (wr ++ (O ++ T)) = (w ++ (wr ++ O)) ++ T := by rw [List.append_assoc, List.append_assoc]
