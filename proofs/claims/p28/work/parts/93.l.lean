variable {Tc : gC} {Tm : gM}
