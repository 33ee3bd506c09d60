theorem srt_nodup {L : ArL} (h : Srt L) : L.Nodup := h.imp (fun {a b} hab e => by rw [e] at hab; exact Nat.lt_irrefl _ hab)
