abbrev vwCl : List vw_C := [(RX0, TX0, 8), (RX0, TX0, 8), (RX1, TX1, 5), (RX2, TX2, 7), (RX3, TX3, 5), (RX4, TX4, 3)]
